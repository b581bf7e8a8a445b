section
variable {r n : Nat} {gk gv : Nat → Int32} {os : Int32} {i l b d : Nat} {st : List Nat}
theorem rh_t {k : Int32} (ho : tk_o r os) : (if r = 1 then tk_N r k.toInt = 131 else tk_N r k.toInt = 132 ∨ tk_N r k.toInt = 133) ↔ ((os = 0 ∧ (k.toInt = 132 ∨ k.toInt = 133)) ∨ (¬ os = 0 ∧ k.toInt = 131)) := by
  by_cases q : os = 0
  · have hr := ho.1 q
    subst hr
    rw [if_neg (show ¬ (2 : Nat) = 1 by decide)]
    constructor
    · rintro (w | w)
      · exact Or.inl ⟨q, Or.inl (tk_N.inv (Or.inr rfl) w (by decide))⟩
      · exact Or.inl ⟨q, Or.inr (tk_N.inv (Or.inr rfl) w (by decide))⟩
    · rintro (w | w)
      · rcases w.2 with e | e
        · rw [e]; exact Or.inl rfl
        · rw [e]; exact Or.inr rfl
      · exact absurd q w.1
  · have hr := ho.2 q
    subst hr
    rw [if_pos (show (1 : Nat) = 1 from rfl)]
    constructor
    · intro w
      exact Or.inr ⟨q, tk_N.inv (Or.inl rfl) w (by decide)⟩
    · rintro (w | w)
      · exact absurd w.1 q
      · rw [w.2]; rfl
theorem rh_z {k : Int32} (ho : tk_o r os) (h : (os = 0 ∧ (k.toInt = 132 ∨ k.toInt = 133)) ∨ (¬ os = 0 ∧ k.toInt = 131)) : ¬ tk_N r k.toInt = 0 := fun q => by
  have w := tk_N.inv ho.two q (by decide)
  omega
theorem rh_ok (ho : tk_o r os) (h : tk_cf r n (tk_k gk) (tk_k gv) i = .head l) (u : (os = 0 ∧ ((gk i).toInt = 132 ∨ (gk i).toInt = 133)) ∨ (¬ os = 0 ∧ (gk i).toInt = 131)) (hl : l < 16) : tk_cf r n (tk_k gk) (tk_k gv) (i + 1) = .unit l 0 0 [] := by
  refine (tk_at.of h).trans ?_
  exact (if_neg (rh_z ho u)).trans ((if_neg (fun q => q ((rh_t ho).mpr u))).trans (if_neg (by omega)))
theorem rh_many (ho : tk_o r os) (h : tk_cf r n (tk_k gk) (tk_k gv) i = .head l) (u : (os = 0 ∧ ((gk i).toInt = 132 ∨ (gk i).toInt = 133)) ∨ (¬ os = 0 ∧ (gk i).toInt = 131)) (hl : 16 ≤ l) : tk_F r n (tk_k gk) (tk_k gv) i 3 := by
  refine (tk_at.of h).trans ?_
  exact (if_neg (rh_z ho u)).trans ((if_neg (fun q => q ((rh_t ho).mpr u))).trans (if_pos hl))
theorem rh_no (ho : tk_o r os) (h : tk_cf r n (tk_k gk) (tk_k gv) i = .head l) (z : ¬ (gk i).toInt = 0) (u : ¬ ((os = 0 ∧ ((gk i).toInt = 132 ∨ (gk i).toInt = 133)) ∨ (¬ os = 0 ∧ (gk i).toInt = 131))) : tk_F r n (tk_k gk) (tk_k gv) i 1 := by
  refine (tk_at.of h).trans ?_
  exact (if_neg (fun q => z (tk_N.inv ho.two q (by decide)))).trans (if_pos (fun q => u ((rh_t ho).mp q)))
theorem ra_z (hr : r = 1 ∨ r = 2) (h : tk_cf r n (tk_k gk) (tk_k gv) i = .aft l 0 d st) (u : ¬ tk_SG (gk i)) : tk_cf r n (tk_k gk) (tk_k gv) (i + 1) = if tk_N r (tk_k gk i) = 134 then .claim l 0 [0] else if tk_N r (tk_k gk i) = 59 then .head (l + 1) else .bad 1 i := by
  have z : ∀ v : Int, ¬ v = 1 → tk_N r (tk_k gk i) = v → (gk i).toInt = v := fun v hv q => tk_N.inv hr q hv
  refine (tk_at.of h).trans ?_
  have n1 : ¬ (tk_N r (tk_k gk i) = 43 ∨ tk_N r (tk_k gk i) = 45 ∨ tk_N r (tk_k gk i) = 42) := fun q => u (by
    rcases q with q | q | q
    · exact Or.inl (z _ (by decide) q)
    · exact Or.inr (Or.inl (z _ (by decide) q))
    · exact Or.inr (Or.inr (Or.inl (z _ (by decide) q))))
  have n2 : ¬ tk_N r (tk_k gk i) = 47 := fun q => u (Or.inr (Or.inr (Or.inr (z _ (by decide) q))))
  exact (if_neg n1).trans ((if_neg n2).trans (if_pos rfl))
theorem ra_when (hr : r = 1 ∨ r = 2) (h : tk_cf r n (tk_k gk) (tk_k gv) i = .aft l 0 d st) (u : ¬ tk_SG (gk i)) (w : (gk i).toInt = 134) : tk_cf r n (tk_k gk) (tk_k gv) (i + 1) = .claim l 0 [0] := by
  rw [ra_z hr h u]
  exact if_pos ((tk_N.mid hr (show 134 ≤ (gk i).toInt ∧ (gk i).toInt ≤ 142 by omega)).trans w)
theorem ra_semi (hr : r = 1 ∨ r = 2) (h : tk_cf r n (tk_k gk) (tk_k gv) i = .aft l 0 d st) (u : ¬ tk_SG (gk i)) (w : (gk i).toInt = 59) : tk_cf r n (tk_k gk) (tk_k gv) (i + 1) = .head (l + 1) := by
  have e : tk_N r (tk_k gk i) = 59 := (tk_N.lo (show (gk i).toInt < 128 by omega)).trans w
  rw [ra_z hr h u, if_neg (by rw [e]; decide), if_pos e]
theorem ra_no (hr : r = 1 ∨ r = 2) (h : tk_cf r n (tk_k gk) (tk_k gv) i = .aft l 0 d st) (u : ¬ tk_SG (gk i)) (w1 : ¬ (gk i).toInt = 134) (w2 : ¬ (gk i).toInt = 59) : tk_F r n (tk_k gk) (tk_k gv) i 1 := by
  exact (ra_z hr h u).trans ((if_neg (fun q => w1 (tk_N.inv hr q (by decide)))).trans (if_neg (fun q => w2 (tk_N.inv hr q (by decide)))))
theorem rj_semi (h : tk_cl r n (tk_k gk) (tk_k gv) i l [b]) (u : (gk i).toInt = 59) : tk_cf r n (tk_k gk) (tk_k gv) (i + 1) = .head (l + 1) := by
  have e : tk_N r (tk_k gk i) = 59 := (tk_N.lo (show (gk i).toInt < 128 by omega)).trans u
  refine h.trans ?_
  rw [e]
  show (if (59 : Int) = 135 ∨ (59 : Int) = 136 then tk_Q.claim l b [b] else if (59 : Int) = 59 then tk_Q.head (l + 1) else tk_Q.bad 1 i) = _
  rw [if_neg (show ¬ ((59 : Int) = 135 ∨ (59 : Int) = 136) by decide), if_pos rfl]
theorem rj_none (hr : r = 1 ∨ r = 2) (h : tk_cl r n (tk_k gk) (tk_k gv) i l [b]) (u : ¬ ((gk i).toInt = 135 ∨ (gk i).toInt = 136)) (w : ¬ (gk i).toInt = 59) : tk_F r n (tk_k gk) (tk_k gv) i 1 := by
  refine h.trans ?_
  have n1 : ¬ (tk_N r (tk_k gk i) = 135 ∨ tk_N r (tk_k gk i) = 136) := fun q => u (by
    rcases q with q | q
    · exact Or.inl (tk_N.inv hr q (by decide))
    · exact Or.inr (tk_N.inv hr q (by decide)))
  exact (if_neg n1).trans (if_neg (fun q => w (tk_N.inv hr q (by decide))))
end
set_option maxHeartbeats 4000000 in
set_option maxRecDepth 100000 in
theorem a_X7_readLawLine (l : Launch) (D : va_G) (tys : List (ClassId × FieldType)) (base : Nat) (G : iv_G) (h0 : Nat) (g_h0 : Nat → Int32) (r_h0 : Nat → Nat) (a_h0 : G h0 = some (7, g_h0, r_h0)) (n_g_h0 : iv_R 0 400 (g_h0 1)) (hR : iv_RL 1 0 h0 G) (b : Nat) (gk gv gp : Nat → Int32) (N : Nat) (hN : (gk N).toInt = 0) (hN4 : N ≤ 400) (os : Int32) (rr0 nn0 : Nat) (ho : tk_o rr0 os) (i : Nat) (RS : rs h0 b gk gv gp N i os G) (hz : ¬ (gk i).toInt = 0) (l0 : Nat) (hl0 : (g_h0 8).toInt = (l0 : Int)) (CF : tk_cf rr0 nn0 (tk_k gk) (tk_k gv) i = .head l0) : Met l yX7_readLawLine (Cond.code yX7_readLawLine cX7_readLawLine 2 (some .boolean) :: iv_W0) ({ frames := 34, cells := 0, slots := 0, locals := 790 }) (iv_Pc iv_sh D classes tys base G [.ref h0]) (iv_Qi iv_sh D classes tys base (fun v G' => (iv_Md0 [7, 34, 35, 36, 37, 38] G G' ∧ (∀ (g' : Nat → Int32) (r' : Nat → Nat), G' h0 = some (7, g', r') → iv_R 0 400 (g' 1))) ∧ iv_R 0 1 v ∧ (¬ v = 0 → iv_RE h0 G') ∧ (qs h0 b gk gv gp N os rr0 nn0 (i + 1) (fun i' => tk_cf rr0 nn0 (tk_k gk) (tk_k gv) i' = .head (l0 + 1)) v G' ∧ (¬ v = 0 → ∀ (g' : Nat → Int32) (r' : Nat → Nat), G' h0 = some (7, g', r') → (g' 8).toInt = (l0 : Int) + 1)))) 0 0 (iv_A base) := by
  refine iv_head (by decide) (Nat.le_of_ble_eq_true rfl) ?_
  intro p e s m args below meth c ls X hr hlocks hname hB hl
  have X := X
  have hx := X.1.1
  have hb := X.1.2.1
  have hM : iv_Md0 [7, 34, 35, 36, 37, 38] G G := iv_Md0.rf
  have hl : lv_has ls 2 [(0, .ref h0)] := hl
  obtain ⟨i1, hi1⟩ : ∃ i1, i1 = i := ⟨_, rfl⟩
  rw [← hi1] at RS hz CF
  have RS1 := RS
  have RB1 := RS1.got a_h0
  have CF1 := CF
  have hlt1 : i1 < N := RS1.lt hN hz
  have hj1 : i ≤ i1 := by omega
  refine lv_aload_n hx hb dX7_readLawLine_0 rfl (lv_at hl 0 rfl) ?_
  refine iv_geti X ft_X7 hB a_h0 sh_7 4 (by decide) rfl k_fl_X7_60 dX7_readLawLine_1 (fun x1 e_x1 i_x1 => ?_)
  have hx1 : x1 = os := e_x1.trans RB1.2.2.1
  refine lv_if_eq (tgt := 25) hx hb dX7_readLawLine_4 (by decide) (fun c2 => ?_) (fun c2 => ?_)
  · skip
    have i2_x1 : iv_R 0 0 x1 := (i_x1.cutHi (n := 0) (iv_eq_r c2 q_0).2)
    refine lv_aload_n hx hb dX7_readLawLine_25 rfl (lv_at hl 0 rfl) ?_
    refine iv_geti X ft_X7 hB a_h0 sh_7 2 (by decide) rfl k_fl_X7_53 dX7_readLawLine_26 (fun x4 e_x4 i_x4 => ?_)
    have hkk : x4.toInt = (gk i1).toInt := congrArg Int32.toInt (e_x4.trans RB1.2.1.2.1)
    refine lv_sipush (v := 132) hx hb dX7_readLawLine_29 (by decide) ?_
    refine lv_icmp_eq (tgt := 45) hx hb dX7_readLawLine_32 (by decide) (fun c5 => ?_) (fun c5 => ?_)
    · skip
      have i5_x4 : iv_R 132 132 x4 := ((i_x4.cutLo (n := 132) (iv_eq_r c5 q_132).1).cutHi (n := 132) (iv_eq_r c5 q_132).2)
      have hU : ((os = 0 ∧ ((gk i1).toInt = 132 ∨ (gk i1).toInt = 133)) ∨ (¬ os = 0 ∧ (gk i1).toInt = 131)) := Or.inl ⟨hx1.symm.trans c2, by rw [← hkk]; have w := i5_x4.1; have w2 := i5_x4.2; omega⟩
      refine lv_iconst (v := 1) hx hb dX7_readLawLine_45 (by decide) ?_
      refine lv_goto (tgt := 50) hx hb dX7_readLawLine_46 (by decide) ?_
      refine lv_istore_n (lv' := [(1, .int 1), (0, .ref h0)]) hx hb dX7_readLawLine_50 rfl hl (by decide) rfl (fun ls hl => ?_)
      refine lv_iload_n hx hb dX7_readLawLine_51 rfl (lv_at hl 0 rfl) ?_
      refine lv_if_ne (tgt := 61) hx hb dX7_readLawLine_52 (by decide) (fun c7 => ?_) (fun c7 => ?_)
      · skip
        refine lv_aload_n hx hb dX7_readLawLine_61 rfl (lv_at hl 1 rfl) ?_
        refine iv_geti X ft_X7 hB a_h0 sh_7 8 (by decide) rfl k_fl_X7_74 dX7_readLawLine_62 (fun x8 e_x8 i_x8 => ?_)
        refine lv_bipush (v := 16) hx hb dX7_readLawLine_65 (by decide) ?_
        refine lv_icmp_lt (tgt := 76) hx hb dX7_readLawLine_67 (by decide) (fun c9 => ?_) (fun c9 => ?_)
        · skip
          have i9_x8 : iv_R 0 15 x8 := (i_x8.cutHi (n := 15) (iv_lt_r c9 q_16 (by decide)))
          refine lv_aload_n hx hb dX7_readLawLine_76 rfl (lv_at hl 1 rfl) ?_
          refine iv_getr X ft_X7 hB a_h0 sh_7 10 (by decide) rfl k_fl_X7_26 dX7_readLawLine_77 (fun b11 g_b11 r_b11 e_b11 a_b11 => ?_)
          refine lv_aload_n hx hb dX7_readLawLine_80 rfl (lv_at hl 1 rfl) ?_
          refine iv_geti0 X ft_X7 hB a_h0 sh_7 8 (by decide) rfl k_fl_X7_74 dX7_readLawLine_81 e_x8 ?_
          refine lv_aload_n hx hb dX7_readLawLine_84 rfl (lv_at hl 1 rfl) ?_
          refine iv_geti0 X ft_X7 hB a_h0 sh_7 2 (by decide) rfl k_fl_X7_53 dX7_readLawLine_85 e_x4 ?_
          refine iv_ast X hB a_b11 sh_34 (iv_in i9_x8 (by decide)) (i5_x4.wk (by decide)) dX7_readLawLine_88 (fun H locs hB => ?_)
          have hm := iv_Md.ast (j := x8.toNatClampNeg) (x := x4) a_b11 rfl (by decide)
          have h9 := iv_up_eq (G := G) (a := b11) (k := (34, upd g_b11 x8.toNatClampNeg x4, r_b11))
          generalize iv_up G b11 _ = G12 at hB hm h9
          have hM := hM.stp hm.weak (by decide)
          have hR := hR.md hm (by decide) (by decide)
          have a_h0 := hm.at a_h0 (by decide)
          have RS1 : rs h0 b gk gv gp N i1 os G12 := ⟨RS1.1, RS1.2.1.md hm (by decide), _, _, a_h0, RB1⟩
          refine lv_aload_n hx hb dX7_readLawLine_89 rfl (lv_at hl 1 rfl) ?_
          refine iv_cVv X k_good k_mf_X7_step k_im_X7_step k_sel_X7_step k_ml_X7_83 ft_X7 hB a_h0 sh_7 (As := []) (e_X7_step l D tys base G12 h0 g_h0 r_h0 a_h0 gk gv gp (by rw [RB1.1]; exact RS1.2.1) (i1 + 1) (by omega) (by rw [RB1.2.1.1]; omega)) ⟨rfl, rfl⟩ ⟨Nat.le_of_ble_eq_true rfl, Nat.le_of_ble_eq_true rfl⟩ ⟨Nat.le_of_ble_eq_true rfl, Nat.le_of_ble_eq_true rfl⟩ rfl rfl hl.1 (Nat.le_of_ble_eq_true rfl) dX7_readLawLine_90 (fun G9 H locs hq hB => ?_)
          obtain ⟨hm, vg, vc⟩ := hq
          obtain ⟨G14, hG9⟩ : ∃ g, g = G9 := ⟨_, rfl⟩
          rw [← hG9] at hm hB vg vc
          have hM := hM.stp hm.weak (by decide)
          have hR := hR.md hm (by decide) (by decide)
          obtain ⟨g15, r16, a_h0, f_g15⟩ := hm.ex a_h0
          have n_g15 := iv_nxt hB a_h0 f_g15 n_g_h0
          have RS1 : rs h0 b gk gv gp N (i1 + 1) os G14 := ⟨hlt1, RS1.2.1.md hm (by decide), g15, r16, a_h0, (f_g15.1 0 (fun h => absurd (show (7 : Nat) = 5 from h) (by decide))).trans RB1.1, (vc _ _ a_h0).1, (f_g15.2.1 4 (show (4 : Nat) ∈ iv_stab 7 from by decide)).trans RB1.2.2.1, (vc _ _ a_h0).2.1.trans RB1.2.2.2.1, (vc _ _ a_h0).2.2.trans RB1.2.2.2.2⟩
          have CF1 := rh_ok ho CF1 hU (by have w := congrArg Int32.toInt e_x8; have w2 := Int32.lt_iff_toInt_lt.mp c9; have e16 : (16 : Int32).toInt = 16 := rfl; omega)
          have hj1 : i + 1 ≤ i1 + 1 := by omega
          obtain ⟨i1, hi1⟩ : ∃ j, j = i1 + 1 := ⟨_, rfl⟩
          rw [← hi1] at RS1 CF1 hj1
          have RB1 := RS1.got a_h0
          have e17 : x8 = g15 8 := e_x8.trans (f_g15.2.1 8 (show (8 : Nat) ∈ iv_stab 7 from by decide)).symm
          have e18 : b11 = r16 10 := e_b11.trans (f_g15.1 10 (fun h => absurd (show (7 : Nat) = 5 from h) (by decide))).symm
          have vg19 := vg _ _ a_h0
          refine lv_aload_n hx hb dX7_readLawLine_93 rfl (lv_at hl 1 rfl) ?_
          refine iv_cVi X k_good k_mf_X7_readSum k_im_X7_readSum k_sel_X7_readSum k_ml_X7_112 ft_X7 hB a_h0 sh_7 (As := []) (e_X7_readSum l D tys base G14 h0 g15 r16 a_h0 vg19 b gk gv gp N hN hN4 i1 os RS1 rr0 nn0 ho l0 0 0 [] (tk_at.of CF1)) ⟨rfl, rfl⟩ ⟨Nat.le_of_ble_eq_true rfl, Nat.le_of_ble_eq_true rfl⟩ ⟨Nat.le_of_ble_eq_true rfl, Nat.le_of_ble_eq_true rfl⟩ rfl rfl hl.1 (Nat.le_of_ble_eq_true rfl) dX7_readLawLine_94 (fun x20 G9 H locs hq hB => ?_)
          obtain ⟨hm, i_x20, Q1⟩ := hq
          obtain ⟨G21, hG9⟩ : ∃ g, g = G9 := ⟨_, rfl⟩
          rw [← hG9] at hm hB Q1
          have hM := hM.stp hm.weak (by decide)
          have hR := hR.md hm (by decide) (by decide)
          obtain ⟨g22, r23, a_h0, f_g22⟩ := hm.ex a_h0
          have n_g22 := iv_nxt hB a_h0 f_g22 vg19
          have e24 : x8 = g22 8 := e17.trans (f_g22.2.1 8 (show (8 : Nat) ∈ iv_stab 7 from by decide)).symm
          have e25 : b11 = r23 10 := e18.trans (f_g22.1 10 (fun h => absurd (show (7 : Nat) = 5 from h) (by decide))).symm
          refine lv_if_ne (tgt := 102) hx hb dX7_readLawLine_97 (by decide) (fun c26 => ?_) (fun c26 => ?_)
          · skip
            have i26_x20 : iv_R 1 1 x20 := iv_ne_lo c26 i_x20 q_0 (by decide)
            obtain ⟨i1, hj1, RS1, CF1, hSG⟩ : ∃ j, i + 1 ≤ j ∧ rs h0 b gk gv gp N j os G21 ∧ tk_cf rr0 nn0 (tk_k gk) (tk_k gv) j = .aft l0 0 0 [] ∧ ¬ tk_SG (gk j) := by obtain ⟨j, w1, w2, w3, w4⟩ := Q1.1 c26; exact ⟨j, by omega, w2, w3, w4⟩
            have RB1 := RS1.got a_h0
            refine lv_aload_n hx hb dX7_readLawLine_102 rfl (lv_at hl 1 rfl) ?_
            refine iv_getr X ft_X7 hB a_h0 sh_7 12 (by decide) rfl k_fl_X7_32 dX7_readLawLine_103 (fun b28 g_b28 r_b28 e_b28 a_b28 => ?_)
            refine lv_aload_n hx hb dX7_readLawLine_106 rfl (lv_at hl 1 rfl) ?_
            refine iv_geti0 X ft_X7 hB a_h0 sh_7 8 (by decide) rfl k_fl_X7_74 dX7_readLawLine_107 e24 ?_
            refine lv_aload_n hx hb dX7_readLawLine_110 rfl (lv_at hl 1 rfl) ?_
            refine iv_geti X ft_X7 hB a_h0 sh_7 5 (by decide) rfl k_fl_X7_77 dX7_readLawLine_111 (fun x29 e_x29 i_x29 => ?_)
            refine iv_ast X hB a_b28 sh_36 (iv_in i9_x8 (by decide)) i_x29 dX7_readLawLine_114 (fun H locs hB => ?_)
            have hm := iv_Md.ast (j := x8.toNatClampNeg) (x := x29) a_b28 rfl (by decide)
            have hR := hR.whens (x := x29) a_h0 e_b28 a_b28 e24 e_x29
            have h9 := iv_up_eq (G := G21) (a := b28) (k := (36, upd g_b28 x8.toNatClampNeg x29, r_b28))
            generalize iv_up G21 b28 _ = G30 at hB hm h9 hR
            have hM := hM.stp hm.weak (by decide)
            have a_h0 := hm.at a_h0 (by decide)
            have RS1 : rs h0 b gk gv gp N i1 os G30 := ⟨RS1.1, RS1.2.1.md hm (by decide), _, _, a_h0, RB1⟩
            refine lv_aload_n hx hb dX7_readLawLine_115 rfl (lv_at hl 1 rfl) ?_
            refine iv_geti X ft_X7 hB a_h0 sh_7 2 (by decide) rfl k_fl_X7_53 dX7_readLawLine_116 (fun x32 e_x32 i_x32 => ?_)
            have hk32 : x32.toInt = (gk i1).toInt := congrArg Int32.toInt (e_x32.trans RB1.2.1.2.1)
            refine lv_sipush (v := 134) hx hb dX7_readLawLine_119 (by decide) ?_
            refine lv_icmp_ne (tgt := 139) hx hb dX7_readLawLine_122 (by decide) (fun c33 => ?_) (fun c33 => ?_)
            · skip
              refine lv_aload_n hx hb dX7_readLawLine_139 rfl (lv_at hl 1 rfl) ?_
              have NO1 := ra_no ho.two CF1 hSG (fun q => c33 (Int32.toInt_inj.mp (hk32.trans q)))
              have YES1 := fun q => ra_semi ho.two CF1 hSG q
              refine lv_bipush (v := 59) hx hb dX7_readLawLine_140 (by decide) ?_
              refine iv_cVi X k_good k_mf_X7_takes k_im_X7_takes k_sel_X7_takes k_ml_X7_105 ft_X7 hB a_h0 sh_7 (As := [.int 59]) (e_X7_takes l D tys base G30 h0 g22 r23 a_h0 n_g22 59 (q_59.wk (by decide)) b gk gv gp N hN hN4 i1 os RS1) ⟨rfl, rfl⟩ ⟨Nat.le_of_ble_eq_true rfl, Nat.le_of_ble_eq_true rfl⟩ ⟨Nat.le_of_ble_eq_true rfl, Nat.le_of_ble_eq_true rfl⟩ rfl rfl hl.1 (Nat.le_of_ble_eq_true rfl) dX7_readLawLine_142 (fun x34 G9 H locs hq hB => ?_)
              obtain ⟨hm, i_x34, eq35, vt⟩ := hq
              obtain ⟨G36, hG9⟩ : ∃ g, g = G9 := ⟨_, rfl⟩
              rw [← hG9] at hm hB vt
              have hM := hM.stp hm.weak (by decide)
              have hR := hR.md hm (by decide) (by decide)
              obtain ⟨g37, r38, a_h0, f_g37⟩ := hm.ex a_h0
              have n_g37 := iv_nxt hB a_h0 f_g37 n_g22
              have e39 : x8 = g37 8 := e24.trans (f_g37.2.1 8 (show (8 : Nat) ∈ iv_stab 7 from by decide)).symm
              have e40 : b11 = r38 10 := e25.trans (f_g37.1 10 (fun h => absurd (show (7 : Nat) = 5 from h) (by decide))).symm
              have e41 : b28 = r38 12 := e_b28.trans (f_g37.1 12 (fun h => absurd (show (7 : Nat) = 5 from h) (by decide))).symm
              refine lv_if_ne (tgt := 150) hx hb dX7_readLawLine_145 (by decide) (fun c42 => ?_) (fun c42 => ?_)
              · skip
                have i42_x34 : iv_R 1 1 x34 := iv_ne_lo c42 i_x34 q_0 (by decide)
                have CF1 := YES1 (congrArg Int32.toInt (vt.1 c42).1)
                have RS1 := (vt.1 c42).2.2
                have hj1 : i + 1 ≤ i1 + 1 := by omega
                obtain ⟨i1, hi1⟩ : ∃ j, j = i1 + 1 := ⟨_, rfl⟩
                rw [← hi1] at RS1 CF1 hj1
                have RB1 := RS1.got a_h0
                refine lv_aload_n hx hb dX7_readLawLine_150 rfl (lv_at hl 1 rfl) ?_
                refine lv_dup hx hb dX7_readLawLine_151 rfl ?_
                refine iv_geti0 X ft_X7 hB a_h0 sh_7 8 (by decide) rfl k_fl_X7_74 dX7_readLawLine_152 e39 ?_
                refine lv_iconst (v := 1) hx hb dX7_readLawLine_155 (by decide) ?_
                refine iv_iadd hx hb i9_x8 q_1 (lo := 1) (hi := 16) (by decide) dX7_readLawLine_156 (fun x44 e_x44 i_x44 => ?_)
                refine iv_puti X ft_X7 hB a_h0 sh_7 8 (by decide) rfl rfl k_fl_X7_74 rfl (i_x44.wk (by decide)) rfl rfl dX7_readLawLine_157 (fun H locs hB => ?_)
                have hm := iv_Md0.put (x := x44) a_h0 (j := 8) (fun h => absurd rfl h)
                have hR := hR.lines (x := x44) a_h0 (by have w1 : x44.toInt = _ := e_x44; have w2 := congrArg Int32.toInt e39; have w3 : (1 : Int32).toInt = 1 := rfl; omega)
                have h9 := iv_up_eq (G := G36) (a := h0) (k := (7, upd g37 8 x44, r38))
                generalize iv_up G36 h0 _ = G45 at hB hm h9 hR
                have hM := hM.stp hm (by decide)
                generalize hgn_g46 : upd g37 _ _ = g46 at h9
                have a_h0 := h9
                have e9_g46 : x44 = g46 8 := by rw [← hgn_g46]; simp [upd]
                have RS1 : rs h0 b gk gv gp N i1 os G45 := ⟨RS1.1, RS1.2.1.md hm (by decide), _, _, a_h0, RB1.1, by rw [← hgn_g46]; exact ⟨RB1.2.1, RB1.2.2⟩⟩
                have RB1 := RS1.got a_h0
                have hl1 : (g46 8).toInt = (l0 : Int) + 1 := by rw [← e9_g46]; have w := congrArg Int32.toInt e_x8; have w2 : x44.toInt = x8.toInt + 1 := e_x44; omega
                have n_g46 : iv_R 0 400 (g46 1) := by rw [← hgn_g46]; exact n_g37
                refine lv_aload_n hx hb dX7_readLawLine_160 rfl (lv_at hl 1 rfl) ?_
                refine iv_getr X ft_X7 hB a_h0 sh_7 11 (by decide) rfl k_fl_X7_29 dX7_readLawLine_161 (fun b47 g_b47 r_b47 e_b47 a_b47 => ?_)
                refine lv_aload_n hx hb dX7_readLawLine_164 rfl (lv_at hl 1 rfl) ?_
                refine iv_geti0 X ft_X7 hB a_h0 sh_7 8 (by decide) rfl k_fl_X7_74 dX7_readLawLine_165 e9_g46 ?_
                refine lv_aload_n hx hb dX7_readLawLine_168 rfl (lv_at hl 1 rfl) ?_
                refine iv_geti X ft_X7 hB a_h0 sh_7 5 (by decide) rfl k_fl_X7_77 dX7_readLawLine_169 (fun x48 e_x48 i_x48 => ?_)
                refine iv_ast X hB a_b47 sh_35 (iv_in i_x44 (by decide)) i_x48 dX7_readLawLine_172 (fun H locs hB => ?_)
                have hm := iv_Md.ast (j := x44.toNatClampNeg) (x := x48) a_b47 rfl (by decide)
                have hR := hR.starts (x := x48) a_h0 e_b47 a_b47 e9_g46 e_x48 (i_x44.wk (by decide))
                have h9 := iv_up_eq (G := G45) (a := b47) (k := (35, upd g_b47 x44.toNatClampNeg x48, r_b47))
                generalize iv_up G45 b47 _ = G49 at hB hm h9 hR
                have hM := hM.stp hm.weak (by decide)
                have a_h0 := hm.at a_h0 (by decide)
                have RS1 : rs h0 b gk gv gp N i1 os G49 := ⟨RS1.1, RS1.2.1.md hm (by decide), _, _, a_h0, RB1⟩
                refine lv_iconst (v := 1) hx hb dX7_readLawLine_173 (by decide) ?_
                exact iv_zret X hr hlocks hB (q_1.wk (by decide)) ⟨⟨hM, fun g9 r9 h9 => by have h8 := a_h0.symm.trans h9; cases h8; exact n_g46⟩, (q_1.wk (by decide)), fun _ => hR, (⟨⟨fun _ => ⟨i1, hj1, RS1, CF1⟩, fun h => absurd h (by decide)⟩, fun _ g8 r8 h8 => by cases a_h0.symm.trans h8; exact hl1⟩)⟩ dX7_readLawLine_174
              · skip
                have i50_x34 : iv_R 0 0 x34 := (i_x34.cutHi (n := 0) (iv_eq_r c42 q_0).2)
                refine lv_iconst (v := 0) hx hb dX7_readLawLine_148 (by decide) ?_
                exact iv_zret X hr hlocks hB (q_0.wk (by decide)) ⟨⟨hM, fun g9 r9 h9 => by have h8 := a_h0.symm.trans h9; cases h8; exact n_g37⟩, (q_0.wk (by decide)), fun h9 => absurd rfl h9, (⟨⟨fun h => absurd rfl h, fun _ => ⟨i1, 1, NO1 (fun q => (vt.2 c42).1 (Int32.toInt_inj.mp q)), (vt.2 c42).2⟩⟩, fun h => absurd rfl h⟩)⟩ dX7_readLawLine_149
            · skip
              have i51_x32 : iv_R 134 134 x32 := ((i_x32.cutLo (n := 134) (iv_eq_r c33 q_134).1).cutHi (n := 134) (iv_eq_r c33 q_134).2)
              have hwh : (gk i1).toInt = 134 := by rw [← hk32]; have w := i51_x32.1; have w2 := i51_x32.2; omega
              have hlt1 : i1 < N := RS1.lt hN (by omega)
              refine lv_aload_n hx hb dX7_readLawLine_125 rfl (lv_at hl 1 rfl) ?_
              refine iv_cVv X k_good k_mf_X7_step k_im_X7_step k_sel_X7_step k_ml_X7_83 ft_X7 hB a_h0 sh_7 (As := []) (e_X7_step l D tys base G30 h0 g22 r23 a_h0 gk gv gp (by rw [RB1.1]; exact RS1.2.1) (i1 + 1) (by omega) (by rw [RB1.2.1.1]; omega)) ⟨rfl, rfl⟩ ⟨Nat.le_of_ble_eq_true rfl, Nat.le_of_ble_eq_true rfl⟩ ⟨Nat.le_of_ble_eq_true rfl, Nat.le_of_ble_eq_true rfl⟩ rfl rfl hl.1 (Nat.le_of_ble_eq_true rfl) dX7_readLawLine_126 (fun G9 H locs hq hB => ?_)
              obtain ⟨hm, vg, vc⟩ := hq
              obtain ⟨G53, hG9⟩ : ∃ g, g = G9 := ⟨_, rfl⟩
              rw [← hG9] at hm hB vg vc
              have hM := hM.stp hm.weak (by decide)
              have hR := hR.md hm (by decide) (by decide)
              obtain ⟨g54, r55, a_h0, f_g54⟩ := hm.ex a_h0
              have n_g54 := iv_nxt hB a_h0 f_g54 n_g22
              have RS1 : rs h0 b gk gv gp N (i1 + 1) os G53 := ⟨hlt1, RS1.2.1.md hm (by decide), g54, r55, a_h0, (f_g54.1 0 (fun h => absurd (show (7 : Nat) = 5 from h) (by decide))).trans RB1.1, (vc _ _ a_h0).1, (f_g54.2.1 4 (show (4 : Nat) ∈ iv_stab 7 from by decide)).trans RB1.2.2.1, (vc _ _ a_h0).2.1.trans RB1.2.2.2.1, (vc _ _ a_h0).2.2.trans RB1.2.2.2.2⟩
              have CF1 := ra_when ho.two CF1 hSG hwh
              have hj1 : i + 1 ≤ i1 + 1 := by omega
              obtain ⟨i1, hi1⟩ : ∃ j, j = i1 + 1 := ⟨_, rfl⟩
              rw [← hi1] at RS1 CF1 hj1
              have RB1 := RS1.got a_h0
              have e56 : x8 = g54 8 := e24.trans (f_g54.2.1 8 (show (8 : Nat) ∈ iv_stab 7 from by decide)).symm
              have e57 : b11 = r55 10 := e25.trans (f_g54.1 10 (fun h => absurd (show (7 : Nat) = 5 from h) (by decide))).symm
              have e58 : b28 = r55 12 := e_b28.trans (f_g54.1 12 (fun h => absurd (show (7 : Nat) = 5 from h) (by decide))).symm
              have vg59 := vg _ _ a_h0
              refine lv_aload_n hx hb dX7_readLawLine_129 rfl (lv_at hl 1 rfl) ?_
              refine lv_iconst (v := 0) hx hb dX7_readLawLine_130 (by decide) ?_
              refine iv_cVi X k_good k_mf_X7_readChoice k_im_X7_readChoice k_sel_X7_readChoice k_ml_X7_115 ft_X7 hB a_h0 sh_7 (As := [.int 0]) (e_X7_readChoice l D tys base b gk gv gp N hN hN4 os rr0 nn0 ho l0 G53 h0 g54 r55 a_h0 vg59 0 (q_0.wk (by decide)) i1 RS1 [] CF1) ⟨rfl, rfl⟩ ⟨Nat.le_of_ble_eq_true rfl, Nat.le_of_ble_eq_true rfl⟩ ⟨Nat.le_of_ble_eq_true rfl, Nat.le_of_ble_eq_true rfl⟩ rfl rfl hl.1 (Nat.le_of_ble_eq_true rfl) dX7_readLawLine_131 (fun x60 G9 H locs hq hB => ?_)
              obtain ⟨hm, i_x60, Q1⟩ := hq
              obtain ⟨G61, hG9⟩ : ∃ g, g = G9 := ⟨_, rfl⟩
              rw [← hG9] at hm hB Q1
              have hM := hM.stp hm.weak (by decide)
              have hR := hR.md hm (by decide) (by decide)
              obtain ⟨g62, r63, a_h0, f_g62⟩ := hm.ex a_h0
              have n_g62 := iv_nxt hB a_h0 f_g62 vg59
              have e64 : x8 = g62 8 := e56.trans (f_g62.2.1 8 (show (8 : Nat) ∈ iv_stab 7 from by decide)).symm
              have e65 : b11 = r63 10 := e57.trans (f_g62.1 10 (fun h => absurd (show (7 : Nat) = 5 from h) (by decide))).symm
              have e66 : b28 = r63 12 := e58.trans (f_g62.1 12 (fun h => absurd (show (7 : Nat) = 5 from h) (by decide))).symm
              refine lv_if_ne (tgt := 139) hx hb dX7_readLawLine_134 (by decide) (fun c67 => ?_) (fun c67 => ?_)
              · skip
                have i67_x60 : iv_R 1 1 x60 := iv_ne_lo c67 i_x60 q_0 (by decide)
                obtain ⟨i1, hj1, RS1, CL1, hAO⟩ : ∃ j, i + 1 ≤ j ∧ rs h0 b gk gv gp N j os G61 ∧ tk_cl rr0 nn0 (tk_k gk) (tk_k gv) j l0 [(0 : Int32).toInt.toNat] ∧ ¬ ((gk j).toInt = 135 ∨ (gk j).toInt = 136) := by obtain ⟨j, w1, w2, w3, w4⟩ := Q1.1 c67; exact ⟨j, by omega, w2, w3, w4⟩
                have RB1 := RS1.got a_h0
                have NO1 := rj_none ho.two CL1 hAO
                have YES1 := fun q => rj_semi (r := rr0) (n := nn0) (gv := gv) CL1 q
                refine lv_aload_n hx hb dX7_readLawLine_139 rfl (lv_at hl 1 rfl) ?_
                refine lv_bipush (v := 59) hx hb dX7_readLawLine_140 (by decide) ?_
                refine iv_cVi X k_good k_mf_X7_takes k_im_X7_takes k_sel_X7_takes k_ml_X7_105 ft_X7 hB a_h0 sh_7 (As := [.int 59]) (e_X7_takes l D tys base G61 h0 g62 r63 a_h0 n_g62 59 (q_59.wk (by decide)) b gk gv gp N hN hN4 i1 os RS1) ⟨rfl, rfl⟩ ⟨Nat.le_of_ble_eq_true rfl, Nat.le_of_ble_eq_true rfl⟩ ⟨Nat.le_of_ble_eq_true rfl, Nat.le_of_ble_eq_true rfl⟩ rfl rfl hl.1 (Nat.le_of_ble_eq_true rfl) dX7_readLawLine_142 (fun x69 G9 H locs hq hB => ?_)
                obtain ⟨hm, i_x69, eq70, vt⟩ := hq
                obtain ⟨G71, hG9⟩ : ∃ g, g = G9 := ⟨_, rfl⟩
                rw [← hG9] at hm hB vt
                have hM := hM.stp hm.weak (by decide)
                have hR := hR.md hm (by decide) (by decide)
                obtain ⟨g72, r73, a_h0, f_g72⟩ := hm.ex a_h0
                have n_g72 := iv_nxt hB a_h0 f_g72 n_g62
                have e74 : x8 = g72 8 := e64.trans (f_g72.2.1 8 (show (8 : Nat) ∈ iv_stab 7 from by decide)).symm
                have e75 : b11 = r73 10 := e65.trans (f_g72.1 10 (fun h => absurd (show (7 : Nat) = 5 from h) (by decide))).symm
                have e76 : b28 = r73 12 := e66.trans (f_g72.1 12 (fun h => absurd (show (7 : Nat) = 5 from h) (by decide))).symm
                refine lv_if_ne (tgt := 150) hx hb dX7_readLawLine_145 (by decide) (fun c77 => ?_) (fun c77 => ?_)
                · skip
                  have i77_x69 : iv_R 1 1 x69 := iv_ne_lo c77 i_x69 q_0 (by decide)
                  have CF1 := YES1 (congrArg Int32.toInt (vt.1 c77).1)
                  have RS1 := (vt.1 c77).2.2
                  have hj1 : i + 1 ≤ i1 + 1 := by omega
                  obtain ⟨i1, hi1⟩ : ∃ j, j = i1 + 1 := ⟨_, rfl⟩
                  rw [← hi1] at RS1 CF1 hj1
                  have RB1 := RS1.got a_h0
                  refine lv_aload_n hx hb dX7_readLawLine_150 rfl (lv_at hl 1 rfl) ?_
                  refine lv_dup hx hb dX7_readLawLine_151 rfl ?_
                  refine iv_geti0 X ft_X7 hB a_h0 sh_7 8 (by decide) rfl k_fl_X7_74 dX7_readLawLine_152 e74 ?_
                  refine lv_iconst (v := 1) hx hb dX7_readLawLine_155 (by decide) ?_
                  refine iv_iadd hx hb i9_x8 q_1 (lo := 1) (hi := 16) (by decide) dX7_readLawLine_156 (fun x79 e_x79 i_x79 => ?_)
                  refine iv_puti X ft_X7 hB a_h0 sh_7 8 (by decide) rfl rfl k_fl_X7_74 rfl (i_x79.wk (by decide)) rfl rfl dX7_readLawLine_157 (fun H locs hB => ?_)
                  have hm := iv_Md0.put (x := x79) a_h0 (j := 8) (fun h => absurd rfl h)
                  have hR := hR.lines (x := x79) a_h0 (by have w1 : x79.toInt = _ := e_x79; have w2 := congrArg Int32.toInt e74; have w3 : (1 : Int32).toInt = 1 := rfl; omega)
                  have h9 := iv_up_eq (G := G71) (a := h0) (k := (7, upd g72 8 x79, r73))
                  generalize iv_up G71 h0 _ = G80 at hB hm h9 hR
                  have hM := hM.stp hm (by decide)
                  generalize hgn_g81 : upd g72 _ _ = g81 at h9
                  have a_h0 := h9
                  have e9_g81 : x79 = g81 8 := by rw [← hgn_g81]; simp [upd]
                  have RS1 : rs h0 b gk gv gp N i1 os G80 := ⟨RS1.1, RS1.2.1.md hm (by decide), _, _, a_h0, RB1.1, by rw [← hgn_g81]; exact ⟨RB1.2.1, RB1.2.2⟩⟩
                  have RB1 := RS1.got a_h0
                  have hl1 : (g81 8).toInt = (l0 : Int) + 1 := by rw [← e9_g81]; have w := congrArg Int32.toInt e_x8; have w2 : x79.toInt = x8.toInt + 1 := e_x79; omega
                  have n_g81 : iv_R 0 400 (g81 1) := by rw [← hgn_g81]; exact n_g72
                  refine lv_aload_n hx hb dX7_readLawLine_160 rfl (lv_at hl 1 rfl) ?_
                  refine iv_getr X ft_X7 hB a_h0 sh_7 11 (by decide) rfl k_fl_X7_29 dX7_readLawLine_161 (fun b82 g_b82 r_b82 e_b82 a_b82 => ?_)
                  refine lv_aload_n hx hb dX7_readLawLine_164 rfl (lv_at hl 1 rfl) ?_
                  refine iv_geti0 X ft_X7 hB a_h0 sh_7 8 (by decide) rfl k_fl_X7_74 dX7_readLawLine_165 e9_g81 ?_
                  refine lv_aload_n hx hb dX7_readLawLine_168 rfl (lv_at hl 1 rfl) ?_
                  refine iv_geti X ft_X7 hB a_h0 sh_7 5 (by decide) rfl k_fl_X7_77 dX7_readLawLine_169 (fun x83 e_x83 i_x83 => ?_)
                  refine iv_ast X hB a_b82 sh_35 (iv_in i_x79 (by decide)) i_x83 dX7_readLawLine_172 (fun H locs hB => ?_)
                  have hm := iv_Md.ast (j := x79.toNatClampNeg) (x := x83) a_b82 rfl (by decide)
                  have hR := hR.starts (x := x83) a_h0 e_b82 a_b82 e9_g81 e_x83 (i_x79.wk (by decide))
                  have h9 := iv_up_eq (G := G80) (a := b82) (k := (35, upd g_b82 x79.toNatClampNeg x83, r_b82))
                  generalize iv_up G80 b82 _ = G84 at hB hm h9 hR
                  have hM := hM.stp hm.weak (by decide)
                  have a_h0 := hm.at a_h0 (by decide)
                  have RS1 : rs h0 b gk gv gp N i1 os G84 := ⟨RS1.1, RS1.2.1.md hm (by decide), _, _, a_h0, RB1⟩
                  refine lv_iconst (v := 1) hx hb dX7_readLawLine_173 (by decide) ?_
                  exact iv_zret X hr hlocks hB (q_1.wk (by decide)) ⟨⟨hM, fun g9 r9 h9 => by have h8 := a_h0.symm.trans h9; cases h8; exact n_g81⟩, (q_1.wk (by decide)), fun _ => hR, (⟨⟨fun _ => ⟨i1, hj1, RS1, CF1⟩, fun h => absurd h (by decide)⟩, fun _ g8 r8 h8 => by cases a_h0.symm.trans h8; exact hl1⟩)⟩ dX7_readLawLine_174
                · skip
                  have i85_x69 : iv_R 0 0 x69 := (i_x69.cutHi (n := 0) (iv_eq_r c77 q_0).2)
                  refine lv_iconst (v := 0) hx hb dX7_readLawLine_148 (by decide) ?_
                  exact iv_zret X hr hlocks hB (q_0.wk (by decide)) ⟨⟨hM, fun g9 r9 h9 => by have h8 := a_h0.symm.trans h9; cases h8; exact n_g72⟩, (q_0.wk (by decide)), fun h9 => absurd rfl h9, (⟨⟨fun h => absurd rfl h, fun _ => ⟨i1, 1, NO1 (fun q => (vt.2 c77).1 (Int32.toInt_inj.mp q)), (vt.2 c77).2⟩⟩, fun h => absurd rfl h⟩)⟩ dX7_readLawLine_149
              · skip
                have i86_x60 : iv_R 0 0 x60 := (i_x60.cutHi (n := 0) (iv_eq_r c67 q_0).2)
                refine lv_iconst (v := 0) hx hb dX7_readLawLine_137 (by decide) ?_
                exact iv_zret X hr hlocks hB (q_0.wk (by decide)) ⟨⟨hM, fun g9 r9 h9 => by have h8 := a_h0.symm.trans h9; cases h8; exact n_g62⟩, (q_0.wk (by decide)), fun h9 => absurd rfl h9, (⟨⟨fun h => absurd rfl h, fun _ => Q1.2 c67⟩, fun h => absurd rfl h⟩)⟩ dX7_readLawLine_138
          · skip
            have i87_x20 : iv_R 0 0 x20 := (i_x20.cutHi (n := 0) (iv_eq_r c26 q_0).2)
            refine lv_iconst (v := 0) hx hb dX7_readLawLine_100 (by decide) ?_
            exact iv_zret X hr hlocks hB (q_0.wk (by decide)) ⟨⟨hM, fun g9 r9 h9 => by have h8 := a_h0.symm.trans h9; cases h8; exact n_g22⟩, (q_0.wk (by decide)), fun h9 => absurd rfl h9, (⟨⟨fun h => absurd rfl h, fun _ => Q1.2 c26⟩, fun h => absurd rfl h⟩)⟩ dX7_readLawLine_101
        · skip
          have i88_x8 : iv_R 16 20 x8 := (i_x8.cutLo (n := 16) (iv_le_l (iv_nlt c9) q_16))
          refine lv_aload_n hx hb dX7_readLawLine_70 rfl (lv_at hl 1 rfl) ?_
          refine lv_iconst (v := 3) hx hb dX7_readLawLine_71 (by decide) ?_
          refine iv_cVi X k_good k_mf_X7_refuse k_im_X7_refuse k_sel_X7_refuse k_ml_X7_98 ft_X7 hB a_h0 sh_7 (As := [.int 3]) (e_X7_refuse l D tys base G h0 g_h0 r_h0 a_h0 n_g_h0 3 (q_3.wk (by decide)) gk gv gp (by rw [RB1.1]; exact RS1.2.1) i1 RB1.2.1.1) ⟨rfl, rfl⟩ ⟨Nat.le_of_ble_eq_true rfl, Nat.le_of_ble_eq_true rfl⟩ ⟨Nat.le_of_ble_eq_true rfl, Nat.le_of_ble_eq_true rfl⟩ rfl rfl hl.1 (Nat.le_of_ble_eq_true rfl) dX7_readLawLine_72 (fun x90 G9 H locs hq hB => ?_)
          obtain ⟨hm, i_x90, vf⟩ := hq
          obtain ⟨G91, hG9⟩ : ∃ g, g = G9 := ⟨_, rfl⟩
          rw [← hG9] at hm hB vf
          have hM := hM.stp hm.weak (by decide)
          have hR := hR.md hm (by decide) (by decide)
          obtain ⟨g92, r93, a_h0, f_g92⟩ := hm.ex a_h0
          have n_g92 := iv_nxt hB a_h0 f_g92 n_g_h0
          have e94 : x8 = g92 8 := e_x8.trans (f_g92.2.1 8 (show (8 : Nat) ∈ iv_stab 7 from by decide)).symm
          exact iv_zret X hr hlocks hB (i_x90.wk (by decide)) ⟨⟨hM, fun g9 r9 h9 => by have h8 := a_h0.symm.trans h9; cases h8; exact n_g92⟩, (i_x90.wk (by decide)), fun h9 => absurd (iv_z i_x90) h9, (⟨⟨fun h => absurd (iv_z i_x90) h, fun _ => ⟨i1, 3, rh_many ho CF1 (hU) (by have w := congrArg Int32.toInt e_x8; have w2 := Int32.le_iff_toInt_le.mp (iv_nlt c9); have e16 : (16 : Int32).toInt = 16 := rfl; omega), ⟨g92, r93, a_h0, vf _ _ a_h0⟩⟩⟩, fun h => absurd (iv_z i_x90) h⟩)⟩ dX7_readLawLine_75
      · skip
        exact (q_1.cutHi (n := 0) (iv_eq_r c7 q_0).2).no (by decide)
    · skip
      refine lv_aload_n hx hb dX7_readLawLine_35 rfl (lv_at hl 0 rfl) ?_
      refine iv_geti0 X ft_X7 hB a_h0 sh_7 2 (by decide) rfl k_fl_X7_53 dX7_readLawLine_36 e_x4 ?_
      refine lv_sipush (v := 133) hx hb dX7_readLawLine_39 (by decide) ?_
      refine lv_icmp_ne (tgt := 49) hx hb dX7_readLawLine_42 (by decide) (fun c95 => ?_) (fun c95 => ?_)
      · skip
        refine lv_iconst (v := 0) hx hb dX7_readLawLine_49 (by decide) ?_
        refine lv_istore_n (lv' := [(1, .int 0), (0, .ref h0)]) hx hb dX7_readLawLine_50 rfl hl (by decide) rfl (fun ls hl => ?_)
        refine lv_iload_n hx hb dX7_readLawLine_51 rfl (lv_at hl 0 rfl) ?_
        refine lv_if_ne (tgt := 61) hx hb dX7_readLawLine_52 (by decide) (fun c96 => ?_) (fun c96 => ?_)
        · skip
          exact absurd rfl c96
        · skip
          refine lv_aload_n hx hb dX7_readLawLine_55 rfl (lv_at hl 1 rfl) ?_
          refine lv_iconst (v := 1) hx hb dX7_readLawLine_56 (by decide) ?_
          have hNU : ¬ ((os = 0 ∧ ((gk i1).toInt = 132 ∨ (gk i1).toInt = 133)) ∨ (¬ os = 0 ∧ (gk i1).toInt = 131)) := fun w => by
            rw [← hkk] at w; have e131 : (131 : Int32).toInt = 131 := rfl; have e132 : (132 : Int32).toInt = 132 := rfl; have e133 : (133 : Int32).toInt = 133 := rfl; first | (have z1 := mt Int32.toInt_inj.mp c5; have z2 := mt Int32.toInt_inj.mp c95; rcases w with w | w; omega; exact w.1 (hx1.symm.trans c2)) | (have z1 := mt Int32.toInt_inj.mp c192; rcases w with w | w; exact c2 (hx1.trans w.1); omega)
          refine iv_cVi X k_good k_mf_X7_refuse k_im_X7_refuse k_sel_X7_refuse k_ml_X7_98 ft_X7 hB a_h0 sh_7 (As := [.int 1]) (e_X7_refuse l D tys base G h0 g_h0 r_h0 a_h0 n_g_h0 1 (q_1.wk (by decide)) gk gv gp (by rw [RB1.1]; exact RS1.2.1) i1 RB1.2.1.1) ⟨rfl, rfl⟩ ⟨Nat.le_of_ble_eq_true rfl, Nat.le_of_ble_eq_true rfl⟩ ⟨Nat.le_of_ble_eq_true rfl, Nat.le_of_ble_eq_true rfl⟩ rfl rfl hl.1 (Nat.le_of_ble_eq_true rfl) dX7_readLawLine_57 (fun x97 G9 H locs hq hB => ?_)
          obtain ⟨hm, i_x97, vf⟩ := hq
          obtain ⟨G98, hG9⟩ : ∃ g, g = G9 := ⟨_, rfl⟩
          rw [← hG9] at hm hB vf
          have hM := hM.stp hm.weak (by decide)
          have hR := hR.md hm (by decide) (by decide)
          obtain ⟨g99, r100, a_h0, f_g99⟩ := hm.ex a_h0
          have n_g99 := iv_nxt hB a_h0 f_g99 n_g_h0
          exact iv_zret X hr hlocks hB (i_x97.wk (by decide)) ⟨⟨hM, fun g9 r9 h9 => by have h8 := a_h0.symm.trans h9; cases h8; exact n_g99⟩, (i_x97.wk (by decide)), fun h9 => absurd (iv_z i_x97) h9, (⟨⟨fun h => absurd (iv_z i_x97) h, fun _ => ⟨i1, 1, rh_no ho CF1 hz hNU, ⟨g99, r100, a_h0, vf _ _ a_h0⟩⟩⟩, fun h => absurd (iv_z i_x97) h⟩)⟩ dX7_readLawLine_60
      · skip
        have i100_x4 : iv_R 133 133 x4 := ((i_x4.cutLo (n := 133) (iv_eq_r c95 q_133).1).cutHi (n := 133) (iv_eq_r c95 q_133).2)
        have hU : ((os = 0 ∧ ((gk i1).toInt = 132 ∨ (gk i1).toInt = 133)) ∨ (¬ os = 0 ∧ (gk i1).toInt = 131)) := Or.inl ⟨hx1.symm.trans c2, by rw [← hkk]; have w := i100_x4.1; have w2 := i100_x4.2; omega⟩
        refine lv_iconst (v := 1) hx hb dX7_readLawLine_45 (by decide) ?_
        refine lv_goto (tgt := 50) hx hb dX7_readLawLine_46 (by decide) ?_
        refine lv_istore_n (lv' := [(1, .int 1), (0, .ref h0)]) hx hb dX7_readLawLine_50 rfl hl (by decide) rfl (fun ls hl => ?_)
        refine lv_iload_n hx hb dX7_readLawLine_51 rfl (lv_at hl 0 rfl) ?_
        refine lv_if_ne (tgt := 61) hx hb dX7_readLawLine_52 (by decide) (fun c102 => ?_) (fun c102 => ?_)
        · skip
          refine lv_aload_n hx hb dX7_readLawLine_61 rfl (lv_at hl 1 rfl) ?_
          refine iv_geti X ft_X7 hB a_h0 sh_7 8 (by decide) rfl k_fl_X7_74 dX7_readLawLine_62 (fun x103 e_x103 i_x103 => ?_)
          refine lv_bipush (v := 16) hx hb dX7_readLawLine_65 (by decide) ?_
          refine lv_icmp_lt (tgt := 76) hx hb dX7_readLawLine_67 (by decide) (fun c104 => ?_) (fun c104 => ?_)
          · skip
            have i104_x103 : iv_R 0 15 x103 := (i_x103.cutHi (n := 15) (iv_lt_r c104 q_16 (by decide)))
            refine lv_aload_n hx hb dX7_readLawLine_76 rfl (lv_at hl 1 rfl) ?_
            refine iv_getr X ft_X7 hB a_h0 sh_7 10 (by decide) rfl k_fl_X7_26 dX7_readLawLine_77 (fun b106 g_b106 r_b106 e_b106 a_b106 => ?_)
            refine lv_aload_n hx hb dX7_readLawLine_80 rfl (lv_at hl 1 rfl) ?_
            refine iv_geti0 X ft_X7 hB a_h0 sh_7 8 (by decide) rfl k_fl_X7_74 dX7_readLawLine_81 e_x103 ?_
            refine lv_aload_n hx hb dX7_readLawLine_84 rfl (lv_at hl 1 rfl) ?_
            refine iv_geti0 X ft_X7 hB a_h0 sh_7 2 (by decide) rfl k_fl_X7_53 dX7_readLawLine_85 e_x4 ?_
            refine iv_ast X hB a_b106 sh_34 (iv_in i104_x103 (by decide)) (i100_x4.wk (by decide)) dX7_readLawLine_88 (fun H locs hB => ?_)
            have hm := iv_Md.ast (j := x103.toNatClampNeg) (x := x4) a_b106 rfl (by decide)
            have h9 := iv_up_eq (G := G) (a := b106) (k := (34, upd g_b106 x103.toNatClampNeg x4, r_b106))
            generalize iv_up G b106 _ = G107 at hB hm h9
            have hM := hM.stp hm.weak (by decide)
            have hR := hR.md hm (by decide) (by decide)
            have a_h0 := hm.at a_h0 (by decide)
            have RS1 : rs h0 b gk gv gp N i1 os G107 := ⟨RS1.1, RS1.2.1.md hm (by decide), _, _, a_h0, RB1⟩
            refine lv_aload_n hx hb dX7_readLawLine_89 rfl (lv_at hl 1 rfl) ?_
            refine iv_cVv X k_good k_mf_X7_step k_im_X7_step k_sel_X7_step k_ml_X7_83 ft_X7 hB a_h0 sh_7 (As := []) (e_X7_step l D tys base G107 h0 g_h0 r_h0 a_h0 gk gv gp (by rw [RB1.1]; exact RS1.2.1) (i1 + 1) (by omega) (by rw [RB1.2.1.1]; omega)) ⟨rfl, rfl⟩ ⟨Nat.le_of_ble_eq_true rfl, Nat.le_of_ble_eq_true rfl⟩ ⟨Nat.le_of_ble_eq_true rfl, Nat.le_of_ble_eq_true rfl⟩ rfl rfl hl.1 (Nat.le_of_ble_eq_true rfl) dX7_readLawLine_90 (fun G9 H locs hq hB => ?_)
            obtain ⟨hm, vg, vc⟩ := hq
            obtain ⟨G109, hG9⟩ : ∃ g, g = G9 := ⟨_, rfl⟩
            rw [← hG9] at hm hB vg vc
            have hM := hM.stp hm.weak (by decide)
            have hR := hR.md hm (by decide) (by decide)
            obtain ⟨g110, r111, a_h0, f_g110⟩ := hm.ex a_h0
            have n_g110 := iv_nxt hB a_h0 f_g110 n_g_h0
            have RS1 : rs h0 b gk gv gp N (i1 + 1) os G109 := ⟨hlt1, RS1.2.1.md hm (by decide), g110, r111, a_h0, (f_g110.1 0 (fun h => absurd (show (7 : Nat) = 5 from h) (by decide))).trans RB1.1, (vc _ _ a_h0).1, (f_g110.2.1 4 (show (4 : Nat) ∈ iv_stab 7 from by decide)).trans RB1.2.2.1, (vc _ _ a_h0).2.1.trans RB1.2.2.2.1, (vc _ _ a_h0).2.2.trans RB1.2.2.2.2⟩
            have CF1 := rh_ok ho CF1 hU (by have w := congrArg Int32.toInt e_x103; have w2 := Int32.lt_iff_toInt_lt.mp c104; have e16 : (16 : Int32).toInt = 16 := rfl; omega)
            have hj1 : i + 1 ≤ i1 + 1 := by omega
            obtain ⟨i1, hi1⟩ : ∃ j, j = i1 + 1 := ⟨_, rfl⟩
            rw [← hi1] at RS1 CF1 hj1
            have RB1 := RS1.got a_h0
            have e112 : x103 = g110 8 := e_x103.trans (f_g110.2.1 8 (show (8 : Nat) ∈ iv_stab 7 from by decide)).symm
            have e113 : b106 = r111 10 := e_b106.trans (f_g110.1 10 (fun h => absurd (show (7 : Nat) = 5 from h) (by decide))).symm
            have vg114 := vg _ _ a_h0
            refine lv_aload_n hx hb dX7_readLawLine_93 rfl (lv_at hl 1 rfl) ?_
            refine iv_cVi X k_good k_mf_X7_readSum k_im_X7_readSum k_sel_X7_readSum k_ml_X7_112 ft_X7 hB a_h0 sh_7 (As := []) (e_X7_readSum l D tys base G109 h0 g110 r111 a_h0 vg114 b gk gv gp N hN hN4 i1 os RS1 rr0 nn0 ho l0 0 0 [] (tk_at.of CF1)) ⟨rfl, rfl⟩ ⟨Nat.le_of_ble_eq_true rfl, Nat.le_of_ble_eq_true rfl⟩ ⟨Nat.le_of_ble_eq_true rfl, Nat.le_of_ble_eq_true rfl⟩ rfl rfl hl.1 (Nat.le_of_ble_eq_true rfl) dX7_readLawLine_94 (fun x115 G9 H locs hq hB => ?_)
            obtain ⟨hm, i_x115, Q1⟩ := hq
            obtain ⟨G116, hG9⟩ : ∃ g, g = G9 := ⟨_, rfl⟩
            rw [← hG9] at hm hB Q1
            have hM := hM.stp hm.weak (by decide)
            have hR := hR.md hm (by decide) (by decide)
            obtain ⟨g117, r118, a_h0, f_g117⟩ := hm.ex a_h0
            have n_g117 := iv_nxt hB a_h0 f_g117 vg114
            have e119 : x103 = g117 8 := e112.trans (f_g117.2.1 8 (show (8 : Nat) ∈ iv_stab 7 from by decide)).symm
            have e120 : b106 = r118 10 := e113.trans (f_g117.1 10 (fun h => absurd (show (7 : Nat) = 5 from h) (by decide))).symm
            refine lv_if_ne (tgt := 102) hx hb dX7_readLawLine_97 (by decide) (fun c121 => ?_) (fun c121 => ?_)
            · skip
              have i121_x115 : iv_R 1 1 x115 := iv_ne_lo c121 i_x115 q_0 (by decide)
              obtain ⟨i1, hj1, RS1, CF1, hSG⟩ : ∃ j, i + 1 ≤ j ∧ rs h0 b gk gv gp N j os G116 ∧ tk_cf rr0 nn0 (tk_k gk) (tk_k gv) j = .aft l0 0 0 [] ∧ ¬ tk_SG (gk j) := by obtain ⟨j, w1, w2, w3, w4⟩ := Q1.1 c121; exact ⟨j, by omega, w2, w3, w4⟩
              have RB1 := RS1.got a_h0
              refine lv_aload_n hx hb dX7_readLawLine_102 rfl (lv_at hl 1 rfl) ?_
              refine iv_getr X ft_X7 hB a_h0 sh_7 12 (by decide) rfl k_fl_X7_32 dX7_readLawLine_103 (fun b123 g_b123 r_b123 e_b123 a_b123 => ?_)
              refine lv_aload_n hx hb dX7_readLawLine_106 rfl (lv_at hl 1 rfl) ?_
              refine iv_geti0 X ft_X7 hB a_h0 sh_7 8 (by decide) rfl k_fl_X7_74 dX7_readLawLine_107 e119 ?_
              refine lv_aload_n hx hb dX7_readLawLine_110 rfl (lv_at hl 1 rfl) ?_
              refine iv_geti X ft_X7 hB a_h0 sh_7 5 (by decide) rfl k_fl_X7_77 dX7_readLawLine_111 (fun x124 e_x124 i_x124 => ?_)
              refine iv_ast X hB a_b123 sh_36 (iv_in i104_x103 (by decide)) i_x124 dX7_readLawLine_114 (fun H locs hB => ?_)
              have hm := iv_Md.ast (j := x103.toNatClampNeg) (x := x124) a_b123 rfl (by decide)
              have hR := hR.whens (x := x124) a_h0 e_b123 a_b123 e119 e_x124
              have h9 := iv_up_eq (G := G116) (a := b123) (k := (36, upd g_b123 x103.toNatClampNeg x124, r_b123))
              generalize iv_up G116 b123 _ = G125 at hB hm h9 hR
              have hM := hM.stp hm.weak (by decide)
              have a_h0 := hm.at a_h0 (by decide)
              have RS1 : rs h0 b gk gv gp N i1 os G125 := ⟨RS1.1, RS1.2.1.md hm (by decide), _, _, a_h0, RB1⟩
              refine lv_aload_n hx hb dX7_readLawLine_115 rfl (lv_at hl 1 rfl) ?_
              refine iv_geti X ft_X7 hB a_h0 sh_7 2 (by decide) rfl k_fl_X7_53 dX7_readLawLine_116 (fun x127 e_x127 i_x127 => ?_)
              have hk32 : x127.toInt = (gk i1).toInt := congrArg Int32.toInt (e_x127.trans RB1.2.1.2.1)
              refine lv_sipush (v := 134) hx hb dX7_readLawLine_119 (by decide) ?_
              refine lv_icmp_ne (tgt := 139) hx hb dX7_readLawLine_122 (by decide) (fun c128 => ?_) (fun c128 => ?_)
              · skip
                refine lv_aload_n hx hb dX7_readLawLine_139 rfl (lv_at hl 1 rfl) ?_
                have NO1 := ra_no ho.two CF1 hSG (fun q => c128 (Int32.toInt_inj.mp (hk32.trans q)))
                have YES1 := fun q => ra_semi ho.two CF1 hSG q
                refine lv_bipush (v := 59) hx hb dX7_readLawLine_140 (by decide) ?_
                refine iv_cVi X k_good k_mf_X7_takes k_im_X7_takes k_sel_X7_takes k_ml_X7_105 ft_X7 hB a_h0 sh_7 (As := [.int 59]) (e_X7_takes l D tys base G125 h0 g117 r118 a_h0 n_g117 59 (q_59.wk (by decide)) b gk gv gp N hN hN4 i1 os RS1) ⟨rfl, rfl⟩ ⟨Nat.le_of_ble_eq_true rfl, Nat.le_of_ble_eq_true rfl⟩ ⟨Nat.le_of_ble_eq_true rfl, Nat.le_of_ble_eq_true rfl⟩ rfl rfl hl.1 (Nat.le_of_ble_eq_true rfl) dX7_readLawLine_142 (fun x129 G9 H locs hq hB => ?_)
                obtain ⟨hm, i_x129, eq130, vt⟩ := hq
                obtain ⟨G131, hG9⟩ : ∃ g, g = G9 := ⟨_, rfl⟩
                rw [← hG9] at hm hB vt
                have hM := hM.stp hm.weak (by decide)
                have hR := hR.md hm (by decide) (by decide)
                obtain ⟨g132, r133, a_h0, f_g132⟩ := hm.ex a_h0
                have n_g132 := iv_nxt hB a_h0 f_g132 n_g117
                have e134 : x103 = g132 8 := e119.trans (f_g132.2.1 8 (show (8 : Nat) ∈ iv_stab 7 from by decide)).symm
                have e135 : b106 = r133 10 := e120.trans (f_g132.1 10 (fun h => absurd (show (7 : Nat) = 5 from h) (by decide))).symm
                have e136 : b123 = r133 12 := e_b123.trans (f_g132.1 12 (fun h => absurd (show (7 : Nat) = 5 from h) (by decide))).symm
                refine lv_if_ne (tgt := 150) hx hb dX7_readLawLine_145 (by decide) (fun c137 => ?_) (fun c137 => ?_)
                · skip
                  have i137_x129 : iv_R 1 1 x129 := iv_ne_lo c137 i_x129 q_0 (by decide)
                  have CF1 := YES1 (congrArg Int32.toInt (vt.1 c137).1)
                  have RS1 := (vt.1 c137).2.2
                  have hj1 : i + 1 ≤ i1 + 1 := by omega
                  obtain ⟨i1, hi1⟩ : ∃ j, j = i1 + 1 := ⟨_, rfl⟩
                  rw [← hi1] at RS1 CF1 hj1
                  have RB1 := RS1.got a_h0
                  refine lv_aload_n hx hb dX7_readLawLine_150 rfl (lv_at hl 1 rfl) ?_
                  refine lv_dup hx hb dX7_readLawLine_151 rfl ?_
                  refine iv_geti0 X ft_X7 hB a_h0 sh_7 8 (by decide) rfl k_fl_X7_74 dX7_readLawLine_152 e134 ?_
                  refine lv_iconst (v := 1) hx hb dX7_readLawLine_155 (by decide) ?_
                  refine iv_iadd hx hb i104_x103 q_1 (lo := 1) (hi := 16) (by decide) dX7_readLawLine_156 (fun x139 e_x139 i_x139 => ?_)
                  refine iv_puti X ft_X7 hB a_h0 sh_7 8 (by decide) rfl rfl k_fl_X7_74 rfl (i_x139.wk (by decide)) rfl rfl dX7_readLawLine_157 (fun H locs hB => ?_)
                  have hm := iv_Md0.put (x := x139) a_h0 (j := 8) (fun h => absurd rfl h)
                  have hR := hR.lines (x := x139) a_h0 (by have w1 : x139.toInt = _ := e_x139; have w2 := congrArg Int32.toInt e134; have w3 : (1 : Int32).toInt = 1 := rfl; omega)
                  have h9 := iv_up_eq (G := G131) (a := h0) (k := (7, upd g132 8 x139, r133))
                  generalize iv_up G131 h0 _ = G140 at hB hm h9 hR
                  have hM := hM.stp hm (by decide)
                  generalize hgn_g141 : upd g132 _ _ = g141 at h9
                  have a_h0 := h9
                  have e9_g141 : x139 = g141 8 := by rw [← hgn_g141]; simp [upd]
                  have RS1 : rs h0 b gk gv gp N i1 os G140 := ⟨RS1.1, RS1.2.1.md hm (by decide), _, _, a_h0, RB1.1, by rw [← hgn_g141]; exact ⟨RB1.2.1, RB1.2.2⟩⟩
                  have RB1 := RS1.got a_h0
                  have hl1 : (g141 8).toInt = (l0 : Int) + 1 := by rw [← e9_g141]; have w := congrArg Int32.toInt e_x103; have w2 : x139.toInt = x103.toInt + 1 := e_x139; omega
                  have n_g141 : iv_R 0 400 (g141 1) := by rw [← hgn_g141]; exact n_g132
                  refine lv_aload_n hx hb dX7_readLawLine_160 rfl (lv_at hl 1 rfl) ?_
                  refine iv_getr X ft_X7 hB a_h0 sh_7 11 (by decide) rfl k_fl_X7_29 dX7_readLawLine_161 (fun b142 g_b142 r_b142 e_b142 a_b142 => ?_)
                  refine lv_aload_n hx hb dX7_readLawLine_164 rfl (lv_at hl 1 rfl) ?_
                  refine iv_geti0 X ft_X7 hB a_h0 sh_7 8 (by decide) rfl k_fl_X7_74 dX7_readLawLine_165 e9_g141 ?_
                  refine lv_aload_n hx hb dX7_readLawLine_168 rfl (lv_at hl 1 rfl) ?_
                  refine iv_geti X ft_X7 hB a_h0 sh_7 5 (by decide) rfl k_fl_X7_77 dX7_readLawLine_169 (fun x143 e_x143 i_x143 => ?_)
                  refine iv_ast X hB a_b142 sh_35 (iv_in i_x139 (by decide)) i_x143 dX7_readLawLine_172 (fun H locs hB => ?_)
                  have hm := iv_Md.ast (j := x139.toNatClampNeg) (x := x143) a_b142 rfl (by decide)
                  have hR := hR.starts (x := x143) a_h0 e_b142 a_b142 e9_g141 e_x143 (i_x139.wk (by decide))
                  have h9 := iv_up_eq (G := G140) (a := b142) (k := (35, upd g_b142 x139.toNatClampNeg x143, r_b142))
                  generalize iv_up G140 b142 _ = G144 at hB hm h9 hR
                  have hM := hM.stp hm.weak (by decide)
                  have a_h0 := hm.at a_h0 (by decide)
                  have RS1 : rs h0 b gk gv gp N i1 os G144 := ⟨RS1.1, RS1.2.1.md hm (by decide), _, _, a_h0, RB1⟩
                  refine lv_iconst (v := 1) hx hb dX7_readLawLine_173 (by decide) ?_
                  exact iv_zret X hr hlocks hB (q_1.wk (by decide)) ⟨⟨hM, fun g9 r9 h9 => by have h8 := a_h0.symm.trans h9; cases h8; exact n_g141⟩, (q_1.wk (by decide)), fun _ => hR, (⟨⟨fun _ => ⟨i1, hj1, RS1, CF1⟩, fun h => absurd h (by decide)⟩, fun _ g8 r8 h8 => by cases a_h0.symm.trans h8; exact hl1⟩)⟩ dX7_readLawLine_174
                · skip
                  have i145_x129 : iv_R 0 0 x129 := (i_x129.cutHi (n := 0) (iv_eq_r c137 q_0).2)
                  refine lv_iconst (v := 0) hx hb dX7_readLawLine_148 (by decide) ?_
                  exact iv_zret X hr hlocks hB (q_0.wk (by decide)) ⟨⟨hM, fun g9 r9 h9 => by have h8 := a_h0.symm.trans h9; cases h8; exact n_g132⟩, (q_0.wk (by decide)), fun h9 => absurd rfl h9, (⟨⟨fun h => absurd rfl h, fun _ => ⟨i1, 1, NO1 (fun q => (vt.2 c137).1 (Int32.toInt_inj.mp q)), (vt.2 c137).2⟩⟩, fun h => absurd rfl h⟩)⟩ dX7_readLawLine_149
              · skip
                have i146_x127 : iv_R 134 134 x127 := ((i_x127.cutLo (n := 134) (iv_eq_r c128 q_134).1).cutHi (n := 134) (iv_eq_r c128 q_134).2)
                have hwh : (gk i1).toInt = 134 := by rw [← hk32]; have w := i146_x127.1; have w2 := i146_x127.2; omega
                have hlt1 : i1 < N := RS1.lt hN (by omega)
                refine lv_aload_n hx hb dX7_readLawLine_125 rfl (lv_at hl 1 rfl) ?_
                refine iv_cVv X k_good k_mf_X7_step k_im_X7_step k_sel_X7_step k_ml_X7_83 ft_X7 hB a_h0 sh_7 (As := []) (e_X7_step l D tys base G125 h0 g117 r118 a_h0 gk gv gp (by rw [RB1.1]; exact RS1.2.1) (i1 + 1) (by omega) (by rw [RB1.2.1.1]; omega)) ⟨rfl, rfl⟩ ⟨Nat.le_of_ble_eq_true rfl, Nat.le_of_ble_eq_true rfl⟩ ⟨Nat.le_of_ble_eq_true rfl, Nat.le_of_ble_eq_true rfl⟩ rfl rfl hl.1 (Nat.le_of_ble_eq_true rfl) dX7_readLawLine_126 (fun G9 H locs hq hB => ?_)
                obtain ⟨hm, vg, vc⟩ := hq
                obtain ⟨G148, hG9⟩ : ∃ g, g = G9 := ⟨_, rfl⟩
                rw [← hG9] at hm hB vg vc
                have hM := hM.stp hm.weak (by decide)
                have hR := hR.md hm (by decide) (by decide)
                obtain ⟨g149, r150, a_h0, f_g149⟩ := hm.ex a_h0
                have n_g149 := iv_nxt hB a_h0 f_g149 n_g117
                have RS1 : rs h0 b gk gv gp N (i1 + 1) os G148 := ⟨hlt1, RS1.2.1.md hm (by decide), g149, r150, a_h0, (f_g149.1 0 (fun h => absurd (show (7 : Nat) = 5 from h) (by decide))).trans RB1.1, (vc _ _ a_h0).1, (f_g149.2.1 4 (show (4 : Nat) ∈ iv_stab 7 from by decide)).trans RB1.2.2.1, (vc _ _ a_h0).2.1.trans RB1.2.2.2.1, (vc _ _ a_h0).2.2.trans RB1.2.2.2.2⟩
                have CF1 := ra_when ho.two CF1 hSG hwh
                have hj1 : i + 1 ≤ i1 + 1 := by omega
                obtain ⟨i1, hi1⟩ : ∃ j, j = i1 + 1 := ⟨_, rfl⟩
                rw [← hi1] at RS1 CF1 hj1
                have RB1 := RS1.got a_h0
                have e151 : x103 = g149 8 := e119.trans (f_g149.2.1 8 (show (8 : Nat) ∈ iv_stab 7 from by decide)).symm
                have e152 : b106 = r150 10 := e120.trans (f_g149.1 10 (fun h => absurd (show (7 : Nat) = 5 from h) (by decide))).symm
                have e153 : b123 = r150 12 := e_b123.trans (f_g149.1 12 (fun h => absurd (show (7 : Nat) = 5 from h) (by decide))).symm
                have vg154 := vg _ _ a_h0
                refine lv_aload_n hx hb dX7_readLawLine_129 rfl (lv_at hl 1 rfl) ?_
                refine lv_iconst (v := 0) hx hb dX7_readLawLine_130 (by decide) ?_
                refine iv_cVi X k_good k_mf_X7_readChoice k_im_X7_readChoice k_sel_X7_readChoice k_ml_X7_115 ft_X7 hB a_h0 sh_7 (As := [.int 0]) (e_X7_readChoice l D tys base b gk gv gp N hN hN4 os rr0 nn0 ho l0 G148 h0 g149 r150 a_h0 vg154 0 (q_0.wk (by decide)) i1 RS1 [] CF1) ⟨rfl, rfl⟩ ⟨Nat.le_of_ble_eq_true rfl, Nat.le_of_ble_eq_true rfl⟩ ⟨Nat.le_of_ble_eq_true rfl, Nat.le_of_ble_eq_true rfl⟩ rfl rfl hl.1 (Nat.le_of_ble_eq_true rfl) dX7_readLawLine_131 (fun x155 G9 H locs hq hB => ?_)
                obtain ⟨hm, i_x155, Q1⟩ := hq
                obtain ⟨G156, hG9⟩ : ∃ g, g = G9 := ⟨_, rfl⟩
                rw [← hG9] at hm hB Q1
                have hM := hM.stp hm.weak (by decide)
                have hR := hR.md hm (by decide) (by decide)
                obtain ⟨g157, r158, a_h0, f_g157⟩ := hm.ex a_h0
                have n_g157 := iv_nxt hB a_h0 f_g157 vg154
                have e159 : x103 = g157 8 := e151.trans (f_g157.2.1 8 (show (8 : Nat) ∈ iv_stab 7 from by decide)).symm
                have e160 : b106 = r158 10 := e152.trans (f_g157.1 10 (fun h => absurd (show (7 : Nat) = 5 from h) (by decide))).symm
                have e161 : b123 = r158 12 := e153.trans (f_g157.1 12 (fun h => absurd (show (7 : Nat) = 5 from h) (by decide))).symm
                refine lv_if_ne (tgt := 139) hx hb dX7_readLawLine_134 (by decide) (fun c162 => ?_) (fun c162 => ?_)
                · skip
                  have i162_x155 : iv_R 1 1 x155 := iv_ne_lo c162 i_x155 q_0 (by decide)
                  obtain ⟨i1, hj1, RS1, CL1, hAO⟩ : ∃ j, i + 1 ≤ j ∧ rs h0 b gk gv gp N j os G156 ∧ tk_cl rr0 nn0 (tk_k gk) (tk_k gv) j l0 [(0 : Int32).toInt.toNat] ∧ ¬ ((gk j).toInt = 135 ∨ (gk j).toInt = 136) := by obtain ⟨j, w1, w2, w3, w4⟩ := Q1.1 c162; exact ⟨j, by omega, w2, w3, w4⟩
                  have RB1 := RS1.got a_h0
                  have NO1 := rj_none ho.two CL1 hAO
                  have YES1 := fun q => rj_semi (r := rr0) (n := nn0) (gv := gv) CL1 q
                  refine lv_aload_n hx hb dX7_readLawLine_139 rfl (lv_at hl 1 rfl) ?_
                  refine lv_bipush (v := 59) hx hb dX7_readLawLine_140 (by decide) ?_
                  refine iv_cVi X k_good k_mf_X7_takes k_im_X7_takes k_sel_X7_takes k_ml_X7_105 ft_X7 hB a_h0 sh_7 (As := [.int 59]) (e_X7_takes l D tys base G156 h0 g157 r158 a_h0 n_g157 59 (q_59.wk (by decide)) b gk gv gp N hN hN4 i1 os RS1) ⟨rfl, rfl⟩ ⟨Nat.le_of_ble_eq_true rfl, Nat.le_of_ble_eq_true rfl⟩ ⟨Nat.le_of_ble_eq_true rfl, Nat.le_of_ble_eq_true rfl⟩ rfl rfl hl.1 (Nat.le_of_ble_eq_true rfl) dX7_readLawLine_142 (fun x164 G9 H locs hq hB => ?_)
                  obtain ⟨hm, i_x164, eq165, vt⟩ := hq
                  obtain ⟨G166, hG9⟩ : ∃ g, g = G9 := ⟨_, rfl⟩
                  rw [← hG9] at hm hB vt
                  have hM := hM.stp hm.weak (by decide)
                  have hR := hR.md hm (by decide) (by decide)
                  obtain ⟨g167, r168, a_h0, f_g167⟩ := hm.ex a_h0
                  have n_g167 := iv_nxt hB a_h0 f_g167 n_g157
                  have e169 : x103 = g167 8 := e159.trans (f_g167.2.1 8 (show (8 : Nat) ∈ iv_stab 7 from by decide)).symm
                  have e170 : b106 = r168 10 := e160.trans (f_g167.1 10 (fun h => absurd (show (7 : Nat) = 5 from h) (by decide))).symm
                  have e171 : b123 = r168 12 := e161.trans (f_g167.1 12 (fun h => absurd (show (7 : Nat) = 5 from h) (by decide))).symm
                  refine lv_if_ne (tgt := 150) hx hb dX7_readLawLine_145 (by decide) (fun c172 => ?_) (fun c172 => ?_)
                  · skip
                    have i172_x164 : iv_R 1 1 x164 := iv_ne_lo c172 i_x164 q_0 (by decide)
                    have CF1 := YES1 (congrArg Int32.toInt (vt.1 c172).1)
                    have RS1 := (vt.1 c172).2.2
                    have hj1 : i + 1 ≤ i1 + 1 := by omega
                    obtain ⟨i1, hi1⟩ : ∃ j, j = i1 + 1 := ⟨_, rfl⟩
                    rw [← hi1] at RS1 CF1 hj1
                    have RB1 := RS1.got a_h0
                    refine lv_aload_n hx hb dX7_readLawLine_150 rfl (lv_at hl 1 rfl) ?_
                    refine lv_dup hx hb dX7_readLawLine_151 rfl ?_
                    refine iv_geti0 X ft_X7 hB a_h0 sh_7 8 (by decide) rfl k_fl_X7_74 dX7_readLawLine_152 e169 ?_
                    refine lv_iconst (v := 1) hx hb dX7_readLawLine_155 (by decide) ?_
                    refine iv_iadd hx hb i104_x103 q_1 (lo := 1) (hi := 16) (by decide) dX7_readLawLine_156 (fun x174 e_x174 i_x174 => ?_)
                    refine iv_puti X ft_X7 hB a_h0 sh_7 8 (by decide) rfl rfl k_fl_X7_74 rfl (i_x174.wk (by decide)) rfl rfl dX7_readLawLine_157 (fun H locs hB => ?_)
                    have hm := iv_Md0.put (x := x174) a_h0 (j := 8) (fun h => absurd rfl h)
                    have hR := hR.lines (x := x174) a_h0 (by have w1 : x174.toInt = _ := e_x174; have w2 := congrArg Int32.toInt e169; have w3 : (1 : Int32).toInt = 1 := rfl; omega)
                    have h9 := iv_up_eq (G := G166) (a := h0) (k := (7, upd g167 8 x174, r168))
                    generalize iv_up G166 h0 _ = G175 at hB hm h9 hR
                    have hM := hM.stp hm (by decide)
                    generalize hgn_g176 : upd g167 _ _ = g176 at h9
                    have a_h0 := h9
                    have e9_g176 : x174 = g176 8 := by rw [← hgn_g176]; simp [upd]
                    have RS1 : rs h0 b gk gv gp N i1 os G175 := ⟨RS1.1, RS1.2.1.md hm (by decide), _, _, a_h0, RB1.1, by rw [← hgn_g176]; exact ⟨RB1.2.1, RB1.2.2⟩⟩
                    have RB1 := RS1.got a_h0
                    have hl1 : (g176 8).toInt = (l0 : Int) + 1 := by rw [← e9_g176]; have w := congrArg Int32.toInt e_x103; have w2 : x174.toInt = x103.toInt + 1 := e_x174; omega
                    have n_g176 : iv_R 0 400 (g176 1) := by rw [← hgn_g176]; exact n_g167
                    refine lv_aload_n hx hb dX7_readLawLine_160 rfl (lv_at hl 1 rfl) ?_
                    refine iv_getr X ft_X7 hB a_h0 sh_7 11 (by decide) rfl k_fl_X7_29 dX7_readLawLine_161 (fun b177 g_b177 r_b177 e_b177 a_b177 => ?_)
                    refine lv_aload_n hx hb dX7_readLawLine_164 rfl (lv_at hl 1 rfl) ?_
                    refine iv_geti0 X ft_X7 hB a_h0 sh_7 8 (by decide) rfl k_fl_X7_74 dX7_readLawLine_165 e9_g176 ?_
                    refine lv_aload_n hx hb dX7_readLawLine_168 rfl (lv_at hl 1 rfl) ?_
                    refine iv_geti X ft_X7 hB a_h0 sh_7 5 (by decide) rfl k_fl_X7_77 dX7_readLawLine_169 (fun x178 e_x178 i_x178 => ?_)
                    refine iv_ast X hB a_b177 sh_35 (iv_in i_x174 (by decide)) i_x178 dX7_readLawLine_172 (fun H locs hB => ?_)
                    have hm := iv_Md.ast (j := x174.toNatClampNeg) (x := x178) a_b177 rfl (by decide)
                    have hR := hR.starts (x := x178) a_h0 e_b177 a_b177 e9_g176 e_x178 (i_x174.wk (by decide))
                    have h9 := iv_up_eq (G := G175) (a := b177) (k := (35, upd g_b177 x174.toNatClampNeg x178, r_b177))
                    generalize iv_up G175 b177 _ = G179 at hB hm h9 hR
                    have hM := hM.stp hm.weak (by decide)
                    have a_h0 := hm.at a_h0 (by decide)
                    have RS1 : rs h0 b gk gv gp N i1 os G179 := ⟨RS1.1, RS1.2.1.md hm (by decide), _, _, a_h0, RB1⟩
                    refine lv_iconst (v := 1) hx hb dX7_readLawLine_173 (by decide) ?_
                    exact iv_zret X hr hlocks hB (q_1.wk (by decide)) ⟨⟨hM, fun g9 r9 h9 => by have h8 := a_h0.symm.trans h9; cases h8; exact n_g176⟩, (q_1.wk (by decide)), fun _ => hR, (⟨⟨fun _ => ⟨i1, hj1, RS1, CF1⟩, fun h => absurd h (by decide)⟩, fun _ g8 r8 h8 => by cases a_h0.symm.trans h8; exact hl1⟩)⟩ dX7_readLawLine_174
                  · skip
                    have i180_x164 : iv_R 0 0 x164 := (i_x164.cutHi (n := 0) (iv_eq_r c172 q_0).2)
                    refine lv_iconst (v := 0) hx hb dX7_readLawLine_148 (by decide) ?_
                    exact iv_zret X hr hlocks hB (q_0.wk (by decide)) ⟨⟨hM, fun g9 r9 h9 => by have h8 := a_h0.symm.trans h9; cases h8; exact n_g167⟩, (q_0.wk (by decide)), fun h9 => absurd rfl h9, (⟨⟨fun h => absurd rfl h, fun _ => ⟨i1, 1, NO1 (fun q => (vt.2 c172).1 (Int32.toInt_inj.mp q)), (vt.2 c172).2⟩⟩, fun h => absurd rfl h⟩)⟩ dX7_readLawLine_149
                · skip
                  have i181_x155 : iv_R 0 0 x155 := (i_x155.cutHi (n := 0) (iv_eq_r c162 q_0).2)
                  refine lv_iconst (v := 0) hx hb dX7_readLawLine_137 (by decide) ?_
                  exact iv_zret X hr hlocks hB (q_0.wk (by decide)) ⟨⟨hM, fun g9 r9 h9 => by have h8 := a_h0.symm.trans h9; cases h8; exact n_g157⟩, (q_0.wk (by decide)), fun h9 => absurd rfl h9, (⟨⟨fun h => absurd rfl h, fun _ => Q1.2 c162⟩, fun h => absurd rfl h⟩)⟩ dX7_readLawLine_138
            · skip
              have i182_x115 : iv_R 0 0 x115 := (i_x115.cutHi (n := 0) (iv_eq_r c121 q_0).2)
              refine lv_iconst (v := 0) hx hb dX7_readLawLine_100 (by decide) ?_
              exact iv_zret X hr hlocks hB (q_0.wk (by decide)) ⟨⟨hM, fun g9 r9 h9 => by have h8 := a_h0.symm.trans h9; cases h8; exact n_g117⟩, (q_0.wk (by decide)), fun h9 => absurd rfl h9, (⟨⟨fun h => absurd rfl h, fun _ => Q1.2 c121⟩, fun h => absurd rfl h⟩)⟩ dX7_readLawLine_101
          · skip
            have i183_x103 : iv_R 16 20 x103 := (i_x103.cutLo (n := 16) (iv_le_l (iv_nlt c104) q_16))
            refine lv_aload_n hx hb dX7_readLawLine_70 rfl (lv_at hl 1 rfl) ?_
            refine lv_iconst (v := 3) hx hb dX7_readLawLine_71 (by decide) ?_
            refine iv_cVi X k_good k_mf_X7_refuse k_im_X7_refuse k_sel_X7_refuse k_ml_X7_98 ft_X7 hB a_h0 sh_7 (As := [.int 3]) (e_X7_refuse l D tys base G h0 g_h0 r_h0 a_h0 n_g_h0 3 (q_3.wk (by decide)) gk gv gp (by rw [RB1.1]; exact RS1.2.1) i1 RB1.2.1.1) ⟨rfl, rfl⟩ ⟨Nat.le_of_ble_eq_true rfl, Nat.le_of_ble_eq_true rfl⟩ ⟨Nat.le_of_ble_eq_true rfl, Nat.le_of_ble_eq_true rfl⟩ rfl rfl hl.1 (Nat.le_of_ble_eq_true rfl) dX7_readLawLine_72 (fun x185 G9 H locs hq hB => ?_)
            obtain ⟨hm, i_x185, vf⟩ := hq
            obtain ⟨G186, hG9⟩ : ∃ g, g = G9 := ⟨_, rfl⟩
            rw [← hG9] at hm hB vf
            have hM := hM.stp hm.weak (by decide)
            have hR := hR.md hm (by decide) (by decide)
            obtain ⟨g187, r188, a_h0, f_g187⟩ := hm.ex a_h0
            have n_g187 := iv_nxt hB a_h0 f_g187 n_g_h0
            have e189 : x103 = g187 8 := e_x103.trans (f_g187.2.1 8 (show (8 : Nat) ∈ iv_stab 7 from by decide)).symm
            exact iv_zret X hr hlocks hB (i_x185.wk (by decide)) ⟨⟨hM, fun g9 r9 h9 => by have h8 := a_h0.symm.trans h9; cases h8; exact n_g187⟩, (i_x185.wk (by decide)), fun h9 => absurd (iv_z i_x185) h9, (⟨⟨fun h => absurd (iv_z i_x185) h, fun _ => ⟨i1, 3, rh_many ho CF1 (hU) (by have w := congrArg Int32.toInt e_x103; have w2 := Int32.le_iff_toInt_le.mp (iv_nlt c104); have e16 : (16 : Int32).toInt = 16 := rfl; omega), ⟨g187, r188, a_h0, vf _ _ a_h0⟩⟩⟩, fun h => absurd (iv_z i_x185) h⟩)⟩ dX7_readLawLine_75
        · skip
          exact (q_1.cutHi (n := 0) (iv_eq_r c102 q_0).2).no (by decide)
  · skip
    have i189_x1 : iv_R 1 1 x1 := iv_ne_lo c2 i_x1 q_0 (by decide)
    refine lv_aload_n hx hb dX7_readLawLine_7 rfl (lv_at hl 0 rfl) ?_
    refine iv_geti X ft_X7 hB a_h0 sh_7 2 (by decide) rfl k_fl_X7_53 dX7_readLawLine_8 (fun x191 e_x191 i_x191 => ?_)
    have hkk : x191.toInt = (gk i1).toInt := congrArg Int32.toInt (e_x191.trans RB1.2.1.2.1)
    refine lv_sipush (v := 131) hx hb dX7_readLawLine_11 (by decide) ?_
    refine lv_icmp_ne (tgt := 21) hx hb dX7_readLawLine_14 (by decide) (fun c192 => ?_) (fun c192 => ?_)
    · skip
      refine lv_iconst (v := 0) hx hb dX7_readLawLine_21 (by decide) ?_
      refine lv_goto (tgt := 50) hx hb dX7_readLawLine_22 (by decide) ?_
      refine lv_istore_n (lv' := [(1, .int 0), (0, .ref h0)]) hx hb dX7_readLawLine_50 rfl hl (by decide) rfl (fun ls hl => ?_)
      refine lv_iload_n hx hb dX7_readLawLine_51 rfl (lv_at hl 0 rfl) ?_
      refine lv_if_ne (tgt := 61) hx hb dX7_readLawLine_52 (by decide) (fun c193 => ?_) (fun c193 => ?_)
      · skip
        exact absurd rfl c193
      · skip
        refine lv_aload_n hx hb dX7_readLawLine_55 rfl (lv_at hl 1 rfl) ?_
        refine lv_iconst (v := 1) hx hb dX7_readLawLine_56 (by decide) ?_
        have hNU : ¬ ((os = 0 ∧ ((gk i1).toInt = 132 ∨ (gk i1).toInt = 133)) ∨ (¬ os = 0 ∧ (gk i1).toInt = 131)) := fun w => by
          rw [← hkk] at w; have e131 : (131 : Int32).toInt = 131 := rfl; have e132 : (132 : Int32).toInt = 132 := rfl; have e133 : (133 : Int32).toInt = 133 := rfl; first | (have z1 := mt Int32.toInt_inj.mp c5; have z2 := mt Int32.toInt_inj.mp c95; rcases w with w | w; omega; exact w.1 (hx1.symm.trans c2)) | (have z1 := mt Int32.toInt_inj.mp c192; rcases w with w | w; exact c2 (hx1.trans w.1); omega)
        refine iv_cVi X k_good k_mf_X7_refuse k_im_X7_refuse k_sel_X7_refuse k_ml_X7_98 ft_X7 hB a_h0 sh_7 (As := [.int 1]) (e_X7_refuse l D tys base G h0 g_h0 r_h0 a_h0 n_g_h0 1 (q_1.wk (by decide)) gk gv gp (by rw [RB1.1]; exact RS1.2.1) i1 RB1.2.1.1) ⟨rfl, rfl⟩ ⟨Nat.le_of_ble_eq_true rfl, Nat.le_of_ble_eq_true rfl⟩ ⟨Nat.le_of_ble_eq_true rfl, Nat.le_of_ble_eq_true rfl⟩ rfl rfl hl.1 (Nat.le_of_ble_eq_true rfl) dX7_readLawLine_57 (fun x194 G9 H locs hq hB => ?_)
        obtain ⟨hm, i_x194, vf⟩ := hq
        obtain ⟨G195, hG9⟩ : ∃ g, g = G9 := ⟨_, rfl⟩
        rw [← hG9] at hm hB vf
        have hM := hM.stp hm.weak (by decide)
        have hR := hR.md hm (by decide) (by decide)
        obtain ⟨g196, r197, a_h0, f_g196⟩ := hm.ex a_h0
        have n_g196 := iv_nxt hB a_h0 f_g196 n_g_h0
        exact iv_zret X hr hlocks hB (i_x194.wk (by decide)) ⟨⟨hM, fun g9 r9 h9 => by have h8 := a_h0.symm.trans h9; cases h8; exact n_g196⟩, (i_x194.wk (by decide)), fun h9 => absurd (iv_z i_x194) h9, (⟨⟨fun h => absurd (iv_z i_x194) h, fun _ => ⟨i1, 1, rh_no ho CF1 hz hNU, ⟨g196, r197, a_h0, vf _ _ a_h0⟩⟩⟩, fun h => absurd (iv_z i_x194) h⟩)⟩ dX7_readLawLine_60
    · skip
      have i197_x191 : iv_R 131 131 x191 := ((i_x191.cutLo (n := 131) (iv_eq_r c192 q_131).1).cutHi (n := 131) (iv_eq_r c192 q_131).2)
      have hU : ((os = 0 ∧ ((gk i1).toInt = 132 ∨ (gk i1).toInt = 133)) ∨ (¬ os = 0 ∧ (gk i1).toInt = 131)) := Or.inr ⟨fun q => c2 (hx1.trans q), by rw [← hkk]; have w := i197_x191.1; have w2 := i197_x191.2; omega⟩
      refine lv_iconst (v := 1) hx hb dX7_readLawLine_17 (by decide) ?_
      refine lv_goto (tgt := 50) hx hb dX7_readLawLine_18 (by decide) ?_
      refine lv_istore_n (lv' := [(1, .int 1), (0, .ref h0)]) hx hb dX7_readLawLine_50 rfl hl (by decide) rfl (fun ls hl => ?_)
      refine lv_iload_n hx hb dX7_readLawLine_51 rfl (lv_at hl 0 rfl) ?_
      refine lv_if_ne (tgt := 61) hx hb dX7_readLawLine_52 (by decide) (fun c199 => ?_) (fun c199 => ?_)
      · skip
        refine lv_aload_n hx hb dX7_readLawLine_61 rfl (lv_at hl 1 rfl) ?_
        refine iv_geti X ft_X7 hB a_h0 sh_7 8 (by decide) rfl k_fl_X7_74 dX7_readLawLine_62 (fun x200 e_x200 i_x200 => ?_)
        refine lv_bipush (v := 16) hx hb dX7_readLawLine_65 (by decide) ?_
        refine lv_icmp_lt (tgt := 76) hx hb dX7_readLawLine_67 (by decide) (fun c201 => ?_) (fun c201 => ?_)
        · skip
          have i201_x200 : iv_R 0 15 x200 := (i_x200.cutHi (n := 15) (iv_lt_r c201 q_16 (by decide)))
          refine lv_aload_n hx hb dX7_readLawLine_76 rfl (lv_at hl 1 rfl) ?_
          refine iv_getr X ft_X7 hB a_h0 sh_7 10 (by decide) rfl k_fl_X7_26 dX7_readLawLine_77 (fun b203 g_b203 r_b203 e_b203 a_b203 => ?_)
          refine lv_aload_n hx hb dX7_readLawLine_80 rfl (lv_at hl 1 rfl) ?_
          refine iv_geti0 X ft_X7 hB a_h0 sh_7 8 (by decide) rfl k_fl_X7_74 dX7_readLawLine_81 e_x200 ?_
          refine lv_aload_n hx hb dX7_readLawLine_84 rfl (lv_at hl 1 rfl) ?_
          refine iv_geti0 X ft_X7 hB a_h0 sh_7 2 (by decide) rfl k_fl_X7_53 dX7_readLawLine_85 e_x191 ?_
          refine iv_ast X hB a_b203 sh_34 (iv_in i201_x200 (by decide)) (i197_x191.wk (by decide)) dX7_readLawLine_88 (fun H locs hB => ?_)
          have hm := iv_Md.ast (j := x200.toNatClampNeg) (x := x191) a_b203 rfl (by decide)
          have h9 := iv_up_eq (G := G) (a := b203) (k := (34, upd g_b203 x200.toNatClampNeg x191, r_b203))
          generalize iv_up G b203 _ = G204 at hB hm h9
          have hM := hM.stp hm.weak (by decide)
          have hR := hR.md hm (by decide) (by decide)
          have a_h0 := hm.at a_h0 (by decide)
          have RS1 : rs h0 b gk gv gp N i1 os G204 := ⟨RS1.1, RS1.2.1.md hm (by decide), _, _, a_h0, RB1⟩
          refine lv_aload_n hx hb dX7_readLawLine_89 rfl (lv_at hl 1 rfl) ?_
          refine iv_cVv X k_good k_mf_X7_step k_im_X7_step k_sel_X7_step k_ml_X7_83 ft_X7 hB a_h0 sh_7 (As := []) (e_X7_step l D tys base G204 h0 g_h0 r_h0 a_h0 gk gv gp (by rw [RB1.1]; exact RS1.2.1) (i1 + 1) (by omega) (by rw [RB1.2.1.1]; omega)) ⟨rfl, rfl⟩ ⟨Nat.le_of_ble_eq_true rfl, Nat.le_of_ble_eq_true rfl⟩ ⟨Nat.le_of_ble_eq_true rfl, Nat.le_of_ble_eq_true rfl⟩ rfl rfl hl.1 (Nat.le_of_ble_eq_true rfl) dX7_readLawLine_90 (fun G9 H locs hq hB => ?_)
          obtain ⟨hm, vg, vc⟩ := hq
          obtain ⟨G206, hG9⟩ : ∃ g, g = G9 := ⟨_, rfl⟩
          rw [← hG9] at hm hB vg vc
          have hM := hM.stp hm.weak (by decide)
          have hR := hR.md hm (by decide) (by decide)
          obtain ⟨g207, r208, a_h0, f_g207⟩ := hm.ex a_h0
          have n_g207 := iv_nxt hB a_h0 f_g207 n_g_h0
          have RS1 : rs h0 b gk gv gp N (i1 + 1) os G206 := ⟨hlt1, RS1.2.1.md hm (by decide), g207, r208, a_h0, (f_g207.1 0 (fun h => absurd (show (7 : Nat) = 5 from h) (by decide))).trans RB1.1, (vc _ _ a_h0).1, (f_g207.2.1 4 (show (4 : Nat) ∈ iv_stab 7 from by decide)).trans RB1.2.2.1, (vc _ _ a_h0).2.1.trans RB1.2.2.2.1, (vc _ _ a_h0).2.2.trans RB1.2.2.2.2⟩
          have CF1 := rh_ok ho CF1 hU (by have w := congrArg Int32.toInt e_x200; have w2 := Int32.lt_iff_toInt_lt.mp c201; have e16 : (16 : Int32).toInt = 16 := rfl; omega)
          have hj1 : i + 1 ≤ i1 + 1 := by omega
          obtain ⟨i1, hi1⟩ : ∃ j, j = i1 + 1 := ⟨_, rfl⟩
          rw [← hi1] at RS1 CF1 hj1
          have RB1 := RS1.got a_h0
          have e209 : x200 = g207 8 := e_x200.trans (f_g207.2.1 8 (show (8 : Nat) ∈ iv_stab 7 from by decide)).symm
          have e210 : b203 = r208 10 := e_b203.trans (f_g207.1 10 (fun h => absurd (show (7 : Nat) = 5 from h) (by decide))).symm
          have vg211 := vg _ _ a_h0
          refine lv_aload_n hx hb dX7_readLawLine_93 rfl (lv_at hl 1 rfl) ?_
          refine iv_cVi X k_good k_mf_X7_readSum k_im_X7_readSum k_sel_X7_readSum k_ml_X7_112 ft_X7 hB a_h0 sh_7 (As := []) (e_X7_readSum l D tys base G206 h0 g207 r208 a_h0 vg211 b gk gv gp N hN hN4 i1 os RS1 rr0 nn0 ho l0 0 0 [] (tk_at.of CF1)) ⟨rfl, rfl⟩ ⟨Nat.le_of_ble_eq_true rfl, Nat.le_of_ble_eq_true rfl⟩ ⟨Nat.le_of_ble_eq_true rfl, Nat.le_of_ble_eq_true rfl⟩ rfl rfl hl.1 (Nat.le_of_ble_eq_true rfl) dX7_readLawLine_94 (fun x212 G9 H locs hq hB => ?_)
          obtain ⟨hm, i_x212, Q1⟩ := hq
          obtain ⟨G213, hG9⟩ : ∃ g, g = G9 := ⟨_, rfl⟩
          rw [← hG9] at hm hB Q1
          have hM := hM.stp hm.weak (by decide)
          have hR := hR.md hm (by decide) (by decide)
          obtain ⟨g214, r215, a_h0, f_g214⟩ := hm.ex a_h0
          have n_g214 := iv_nxt hB a_h0 f_g214 vg211
          have e216 : x200 = g214 8 := e209.trans (f_g214.2.1 8 (show (8 : Nat) ∈ iv_stab 7 from by decide)).symm
          have e217 : b203 = r215 10 := e210.trans (f_g214.1 10 (fun h => absurd (show (7 : Nat) = 5 from h) (by decide))).symm
          refine lv_if_ne (tgt := 102) hx hb dX7_readLawLine_97 (by decide) (fun c218 => ?_) (fun c218 => ?_)
          · skip
            have i218_x212 : iv_R 1 1 x212 := iv_ne_lo c218 i_x212 q_0 (by decide)
            obtain ⟨i1, hj1, RS1, CF1, hSG⟩ : ∃ j, i + 1 ≤ j ∧ rs h0 b gk gv gp N j os G213 ∧ tk_cf rr0 nn0 (tk_k gk) (tk_k gv) j = .aft l0 0 0 [] ∧ ¬ tk_SG (gk j) := by obtain ⟨j, w1, w2, w3, w4⟩ := Q1.1 c218; exact ⟨j, by omega, w2, w3, w4⟩
            have RB1 := RS1.got a_h0
            refine lv_aload_n hx hb dX7_readLawLine_102 rfl (lv_at hl 1 rfl) ?_
            refine iv_getr X ft_X7 hB a_h0 sh_7 12 (by decide) rfl k_fl_X7_32 dX7_readLawLine_103 (fun b220 g_b220 r_b220 e_b220 a_b220 => ?_)
            refine lv_aload_n hx hb dX7_readLawLine_106 rfl (lv_at hl 1 rfl) ?_
            refine iv_geti0 X ft_X7 hB a_h0 sh_7 8 (by decide) rfl k_fl_X7_74 dX7_readLawLine_107 e216 ?_
            refine lv_aload_n hx hb dX7_readLawLine_110 rfl (lv_at hl 1 rfl) ?_
            refine iv_geti X ft_X7 hB a_h0 sh_7 5 (by decide) rfl k_fl_X7_77 dX7_readLawLine_111 (fun x221 e_x221 i_x221 => ?_)
            refine iv_ast X hB a_b220 sh_36 (iv_in i201_x200 (by decide)) i_x221 dX7_readLawLine_114 (fun H locs hB => ?_)
            have hm := iv_Md.ast (j := x200.toNatClampNeg) (x := x221) a_b220 rfl (by decide)
            have hR := hR.whens (x := x221) a_h0 e_b220 a_b220 e216 e_x221
            have h9 := iv_up_eq (G := G213) (a := b220) (k := (36, upd g_b220 x200.toNatClampNeg x221, r_b220))
            generalize iv_up G213 b220 _ = G222 at hB hm h9 hR
            have hM := hM.stp hm.weak (by decide)
            have a_h0 := hm.at a_h0 (by decide)
            have RS1 : rs h0 b gk gv gp N i1 os G222 := ⟨RS1.1, RS1.2.1.md hm (by decide), _, _, a_h0, RB1⟩
            refine lv_aload_n hx hb dX7_readLawLine_115 rfl (lv_at hl 1 rfl) ?_
            refine iv_geti X ft_X7 hB a_h0 sh_7 2 (by decide) rfl k_fl_X7_53 dX7_readLawLine_116 (fun x224 e_x224 i_x224 => ?_)
            have hk32 : x224.toInt = (gk i1).toInt := congrArg Int32.toInt (e_x224.trans RB1.2.1.2.1)
            refine lv_sipush (v := 134) hx hb dX7_readLawLine_119 (by decide) ?_
            refine lv_icmp_ne (tgt := 139) hx hb dX7_readLawLine_122 (by decide) (fun c225 => ?_) (fun c225 => ?_)
            · skip
              refine lv_aload_n hx hb dX7_readLawLine_139 rfl (lv_at hl 1 rfl) ?_
              have NO1 := ra_no ho.two CF1 hSG (fun q => c225 (Int32.toInt_inj.mp (hk32.trans q)))
              have YES1 := fun q => ra_semi ho.two CF1 hSG q
              refine lv_bipush (v := 59) hx hb dX7_readLawLine_140 (by decide) ?_
              refine iv_cVi X k_good k_mf_X7_takes k_im_X7_takes k_sel_X7_takes k_ml_X7_105 ft_X7 hB a_h0 sh_7 (As := [.int 59]) (e_X7_takes l D tys base G222 h0 g214 r215 a_h0 n_g214 59 (q_59.wk (by decide)) b gk gv gp N hN hN4 i1 os RS1) ⟨rfl, rfl⟩ ⟨Nat.le_of_ble_eq_true rfl, Nat.le_of_ble_eq_true rfl⟩ ⟨Nat.le_of_ble_eq_true rfl, Nat.le_of_ble_eq_true rfl⟩ rfl rfl hl.1 (Nat.le_of_ble_eq_true rfl) dX7_readLawLine_142 (fun x226 G9 H locs hq hB => ?_)
              obtain ⟨hm, i_x226, eq227, vt⟩ := hq
              obtain ⟨G228, hG9⟩ : ∃ g, g = G9 := ⟨_, rfl⟩
              rw [← hG9] at hm hB vt
              have hM := hM.stp hm.weak (by decide)
              have hR := hR.md hm (by decide) (by decide)
              obtain ⟨g229, r230, a_h0, f_g229⟩ := hm.ex a_h0
              have n_g229 := iv_nxt hB a_h0 f_g229 n_g214
              have e231 : x200 = g229 8 := e216.trans (f_g229.2.1 8 (show (8 : Nat) ∈ iv_stab 7 from by decide)).symm
              have e232 : b203 = r230 10 := e217.trans (f_g229.1 10 (fun h => absurd (show (7 : Nat) = 5 from h) (by decide))).symm
              have e233 : b220 = r230 12 := e_b220.trans (f_g229.1 12 (fun h => absurd (show (7 : Nat) = 5 from h) (by decide))).symm
              refine lv_if_ne (tgt := 150) hx hb dX7_readLawLine_145 (by decide) (fun c234 => ?_) (fun c234 => ?_)
              · skip
                have i234_x226 : iv_R 1 1 x226 := iv_ne_lo c234 i_x226 q_0 (by decide)
                have CF1 := YES1 (congrArg Int32.toInt (vt.1 c234).1)
                have RS1 := (vt.1 c234).2.2
                have hj1 : i + 1 ≤ i1 + 1 := by omega
                obtain ⟨i1, hi1⟩ : ∃ j, j = i1 + 1 := ⟨_, rfl⟩
                rw [← hi1] at RS1 CF1 hj1
                have RB1 := RS1.got a_h0
                refine lv_aload_n hx hb dX7_readLawLine_150 rfl (lv_at hl 1 rfl) ?_
                refine lv_dup hx hb dX7_readLawLine_151 rfl ?_
                refine iv_geti0 X ft_X7 hB a_h0 sh_7 8 (by decide) rfl k_fl_X7_74 dX7_readLawLine_152 e231 ?_
                refine lv_iconst (v := 1) hx hb dX7_readLawLine_155 (by decide) ?_
                refine iv_iadd hx hb i201_x200 q_1 (lo := 1) (hi := 16) (by decide) dX7_readLawLine_156 (fun x236 e_x236 i_x236 => ?_)
                refine iv_puti X ft_X7 hB a_h0 sh_7 8 (by decide) rfl rfl k_fl_X7_74 rfl (i_x236.wk (by decide)) rfl rfl dX7_readLawLine_157 (fun H locs hB => ?_)
                have hm := iv_Md0.put (x := x236) a_h0 (j := 8) (fun h => absurd rfl h)
                have hR := hR.lines (x := x236) a_h0 (by have w1 : x236.toInt = _ := e_x236; have w2 := congrArg Int32.toInt e231; have w3 : (1 : Int32).toInt = 1 := rfl; omega)
                have h9 := iv_up_eq (G := G228) (a := h0) (k := (7, upd g229 8 x236, r230))
                generalize iv_up G228 h0 _ = G237 at hB hm h9 hR
                have hM := hM.stp hm (by decide)
                generalize hgn_g238 : upd g229 _ _ = g238 at h9
                have a_h0 := h9
                have e9_g238 : x236 = g238 8 := by rw [← hgn_g238]; simp [upd]
                have RS1 : rs h0 b gk gv gp N i1 os G237 := ⟨RS1.1, RS1.2.1.md hm (by decide), _, _, a_h0, RB1.1, by rw [← hgn_g238]; exact ⟨RB1.2.1, RB1.2.2⟩⟩
                have RB1 := RS1.got a_h0
                have hl1 : (g238 8).toInt = (l0 : Int) + 1 := by rw [← e9_g238]; have w := congrArg Int32.toInt e_x200; have w2 : x236.toInt = x200.toInt + 1 := e_x236; omega
                have n_g238 : iv_R 0 400 (g238 1) := by rw [← hgn_g238]; exact n_g229
                refine lv_aload_n hx hb dX7_readLawLine_160 rfl (lv_at hl 1 rfl) ?_
                refine iv_getr X ft_X7 hB a_h0 sh_7 11 (by decide) rfl k_fl_X7_29 dX7_readLawLine_161 (fun b239 g_b239 r_b239 e_b239 a_b239 => ?_)
                refine lv_aload_n hx hb dX7_readLawLine_164 rfl (lv_at hl 1 rfl) ?_
                refine iv_geti0 X ft_X7 hB a_h0 sh_7 8 (by decide) rfl k_fl_X7_74 dX7_readLawLine_165 e9_g238 ?_
                refine lv_aload_n hx hb dX7_readLawLine_168 rfl (lv_at hl 1 rfl) ?_
                refine iv_geti X ft_X7 hB a_h0 sh_7 5 (by decide) rfl k_fl_X7_77 dX7_readLawLine_169 (fun x240 e_x240 i_x240 => ?_)
                refine iv_ast X hB a_b239 sh_35 (iv_in i_x236 (by decide)) i_x240 dX7_readLawLine_172 (fun H locs hB => ?_)
                have hm := iv_Md.ast (j := x236.toNatClampNeg) (x := x240) a_b239 rfl (by decide)
                have hR := hR.starts (x := x240) a_h0 e_b239 a_b239 e9_g238 e_x240 (i_x236.wk (by decide))
                have h9 := iv_up_eq (G := G237) (a := b239) (k := (35, upd g_b239 x236.toNatClampNeg x240, r_b239))
                generalize iv_up G237 b239 _ = G241 at hB hm h9 hR
                have hM := hM.stp hm.weak (by decide)
                have a_h0 := hm.at a_h0 (by decide)
                have RS1 : rs h0 b gk gv gp N i1 os G241 := ⟨RS1.1, RS1.2.1.md hm (by decide), _, _, a_h0, RB1⟩
                refine lv_iconst (v := 1) hx hb dX7_readLawLine_173 (by decide) ?_
                exact iv_zret X hr hlocks hB (q_1.wk (by decide)) ⟨⟨hM, fun g9 r9 h9 => by have h8 := a_h0.symm.trans h9; cases h8; exact n_g238⟩, (q_1.wk (by decide)), fun _ => hR, (⟨⟨fun _ => ⟨i1, hj1, RS1, CF1⟩, fun h => absurd h (by decide)⟩, fun _ g8 r8 h8 => by cases a_h0.symm.trans h8; exact hl1⟩)⟩ dX7_readLawLine_174
              · skip
                have i242_x226 : iv_R 0 0 x226 := (i_x226.cutHi (n := 0) (iv_eq_r c234 q_0).2)
                refine lv_iconst (v := 0) hx hb dX7_readLawLine_148 (by decide) ?_
                exact iv_zret X hr hlocks hB (q_0.wk (by decide)) ⟨⟨hM, fun g9 r9 h9 => by have h8 := a_h0.symm.trans h9; cases h8; exact n_g229⟩, (q_0.wk (by decide)), fun h9 => absurd rfl h9, (⟨⟨fun h => absurd rfl h, fun _ => ⟨i1, 1, NO1 (fun q => (vt.2 c234).1 (Int32.toInt_inj.mp q)), (vt.2 c234).2⟩⟩, fun h => absurd rfl h⟩)⟩ dX7_readLawLine_149
            · skip
              have i243_x224 : iv_R 134 134 x224 := ((i_x224.cutLo (n := 134) (iv_eq_r c225 q_134).1).cutHi (n := 134) (iv_eq_r c225 q_134).2)
              have hwh : (gk i1).toInt = 134 := by rw [← hk32]; have w := i243_x224.1; have w2 := i243_x224.2; omega
              have hlt1 : i1 < N := RS1.lt hN (by omega)
              refine lv_aload_n hx hb dX7_readLawLine_125 rfl (lv_at hl 1 rfl) ?_
              refine iv_cVv X k_good k_mf_X7_step k_im_X7_step k_sel_X7_step k_ml_X7_83 ft_X7 hB a_h0 sh_7 (As := []) (e_X7_step l D tys base G222 h0 g214 r215 a_h0 gk gv gp (by rw [RB1.1]; exact RS1.2.1) (i1 + 1) (by omega) (by rw [RB1.2.1.1]; omega)) ⟨rfl, rfl⟩ ⟨Nat.le_of_ble_eq_true rfl, Nat.le_of_ble_eq_true rfl⟩ ⟨Nat.le_of_ble_eq_true rfl, Nat.le_of_ble_eq_true rfl⟩ rfl rfl hl.1 (Nat.le_of_ble_eq_true rfl) dX7_readLawLine_126 (fun G9 H locs hq hB => ?_)
              obtain ⟨hm, vg, vc⟩ := hq
              obtain ⟨G245, hG9⟩ : ∃ g, g = G9 := ⟨_, rfl⟩
              rw [← hG9] at hm hB vg vc
              have hM := hM.stp hm.weak (by decide)
              have hR := hR.md hm (by decide) (by decide)
              obtain ⟨g246, r247, a_h0, f_g246⟩ := hm.ex a_h0
              have n_g246 := iv_nxt hB a_h0 f_g246 n_g214
              have RS1 : rs h0 b gk gv gp N (i1 + 1) os G245 := ⟨hlt1, RS1.2.1.md hm (by decide), g246, r247, a_h0, (f_g246.1 0 (fun h => absurd (show (7 : Nat) = 5 from h) (by decide))).trans RB1.1, (vc _ _ a_h0).1, (f_g246.2.1 4 (show (4 : Nat) ∈ iv_stab 7 from by decide)).trans RB1.2.2.1, (vc _ _ a_h0).2.1.trans RB1.2.2.2.1, (vc _ _ a_h0).2.2.trans RB1.2.2.2.2⟩
              have CF1 := ra_when ho.two CF1 hSG hwh
              have hj1 : i + 1 ≤ i1 + 1 := by omega
              obtain ⟨i1, hi1⟩ : ∃ j, j = i1 + 1 := ⟨_, rfl⟩
              rw [← hi1] at RS1 CF1 hj1
              have RB1 := RS1.got a_h0
              have e248 : x200 = g246 8 := e216.trans (f_g246.2.1 8 (show (8 : Nat) ∈ iv_stab 7 from by decide)).symm
              have e249 : b203 = r247 10 := e217.trans (f_g246.1 10 (fun h => absurd (show (7 : Nat) = 5 from h) (by decide))).symm
              have e250 : b220 = r247 12 := e_b220.trans (f_g246.1 12 (fun h => absurd (show (7 : Nat) = 5 from h) (by decide))).symm
              have vg251 := vg _ _ a_h0
              refine lv_aload_n hx hb dX7_readLawLine_129 rfl (lv_at hl 1 rfl) ?_
              refine lv_iconst (v := 0) hx hb dX7_readLawLine_130 (by decide) ?_
              refine iv_cVi X k_good k_mf_X7_readChoice k_im_X7_readChoice k_sel_X7_readChoice k_ml_X7_115 ft_X7 hB a_h0 sh_7 (As := [.int 0]) (e_X7_readChoice l D tys base b gk gv gp N hN hN4 os rr0 nn0 ho l0 G245 h0 g246 r247 a_h0 vg251 0 (q_0.wk (by decide)) i1 RS1 [] CF1) ⟨rfl, rfl⟩ ⟨Nat.le_of_ble_eq_true rfl, Nat.le_of_ble_eq_true rfl⟩ ⟨Nat.le_of_ble_eq_true rfl, Nat.le_of_ble_eq_true rfl⟩ rfl rfl hl.1 (Nat.le_of_ble_eq_true rfl) dX7_readLawLine_131 (fun x252 G9 H locs hq hB => ?_)
              obtain ⟨hm, i_x252, Q1⟩ := hq
              obtain ⟨G253, hG9⟩ : ∃ g, g = G9 := ⟨_, rfl⟩
              rw [← hG9] at hm hB Q1
              have hM := hM.stp hm.weak (by decide)
              have hR := hR.md hm (by decide) (by decide)
              obtain ⟨g254, r255, a_h0, f_g254⟩ := hm.ex a_h0
              have n_g254 := iv_nxt hB a_h0 f_g254 vg251
              have e256 : x200 = g254 8 := e248.trans (f_g254.2.1 8 (show (8 : Nat) ∈ iv_stab 7 from by decide)).symm
              have e257 : b203 = r255 10 := e249.trans (f_g254.1 10 (fun h => absurd (show (7 : Nat) = 5 from h) (by decide))).symm
              have e258 : b220 = r255 12 := e250.trans (f_g254.1 12 (fun h => absurd (show (7 : Nat) = 5 from h) (by decide))).symm
              refine lv_if_ne (tgt := 139) hx hb dX7_readLawLine_134 (by decide) (fun c259 => ?_) (fun c259 => ?_)
              · skip
                have i259_x252 : iv_R 1 1 x252 := iv_ne_lo c259 i_x252 q_0 (by decide)
                obtain ⟨i1, hj1, RS1, CL1, hAO⟩ : ∃ j, i + 1 ≤ j ∧ rs h0 b gk gv gp N j os G253 ∧ tk_cl rr0 nn0 (tk_k gk) (tk_k gv) j l0 [(0 : Int32).toInt.toNat] ∧ ¬ ((gk j).toInt = 135 ∨ (gk j).toInt = 136) := by obtain ⟨j, w1, w2, w3, w4⟩ := Q1.1 c259; exact ⟨j, by omega, w2, w3, w4⟩
                have RB1 := RS1.got a_h0
                have NO1 := rj_none ho.two CL1 hAO
                have YES1 := fun q => rj_semi (r := rr0) (n := nn0) (gv := gv) CL1 q
                refine lv_aload_n hx hb dX7_readLawLine_139 rfl (lv_at hl 1 rfl) ?_
                refine lv_bipush (v := 59) hx hb dX7_readLawLine_140 (by decide) ?_
                refine iv_cVi X k_good k_mf_X7_takes k_im_X7_takes k_sel_X7_takes k_ml_X7_105 ft_X7 hB a_h0 sh_7 (As := [.int 59]) (e_X7_takes l D tys base G253 h0 g254 r255 a_h0 n_g254 59 (q_59.wk (by decide)) b gk gv gp N hN hN4 i1 os RS1) ⟨rfl, rfl⟩ ⟨Nat.le_of_ble_eq_true rfl, Nat.le_of_ble_eq_true rfl⟩ ⟨Nat.le_of_ble_eq_true rfl, Nat.le_of_ble_eq_true rfl⟩ rfl rfl hl.1 (Nat.le_of_ble_eq_true rfl) dX7_readLawLine_142 (fun x261 G9 H locs hq hB => ?_)
                obtain ⟨hm, i_x261, eq262, vt⟩ := hq
                obtain ⟨G263, hG9⟩ : ∃ g, g = G9 := ⟨_, rfl⟩
                rw [← hG9] at hm hB vt
                have hM := hM.stp hm.weak (by decide)
                have hR := hR.md hm (by decide) (by decide)
                obtain ⟨g264, r265, a_h0, f_g264⟩ := hm.ex a_h0
                have n_g264 := iv_nxt hB a_h0 f_g264 n_g254
                have e266 : x200 = g264 8 := e256.trans (f_g264.2.1 8 (show (8 : Nat) ∈ iv_stab 7 from by decide)).symm
                have e267 : b203 = r265 10 := e257.trans (f_g264.1 10 (fun h => absurd (show (7 : Nat) = 5 from h) (by decide))).symm
                have e268 : b220 = r265 12 := e258.trans (f_g264.1 12 (fun h => absurd (show (7 : Nat) = 5 from h) (by decide))).symm
                refine lv_if_ne (tgt := 150) hx hb dX7_readLawLine_145 (by decide) (fun c269 => ?_) (fun c269 => ?_)
                · skip
                  have i269_x261 : iv_R 1 1 x261 := iv_ne_lo c269 i_x261 q_0 (by decide)
                  have CF1 := YES1 (congrArg Int32.toInt (vt.1 c269).1)
                  have RS1 := (vt.1 c269).2.2
                  have hj1 : i + 1 ≤ i1 + 1 := by omega
                  obtain ⟨i1, hi1⟩ : ∃ j, j = i1 + 1 := ⟨_, rfl⟩
                  rw [← hi1] at RS1 CF1 hj1
                  have RB1 := RS1.got a_h0
                  refine lv_aload_n hx hb dX7_readLawLine_150 rfl (lv_at hl 1 rfl) ?_
                  refine lv_dup hx hb dX7_readLawLine_151 rfl ?_
                  refine iv_geti0 X ft_X7 hB a_h0 sh_7 8 (by decide) rfl k_fl_X7_74 dX7_readLawLine_152 e266 ?_
                  refine lv_iconst (v := 1) hx hb dX7_readLawLine_155 (by decide) ?_
                  refine iv_iadd hx hb i201_x200 q_1 (lo := 1) (hi := 16) (by decide) dX7_readLawLine_156 (fun x271 e_x271 i_x271 => ?_)
                  refine iv_puti X ft_X7 hB a_h0 sh_7 8 (by decide) rfl rfl k_fl_X7_74 rfl (i_x271.wk (by decide)) rfl rfl dX7_readLawLine_157 (fun H locs hB => ?_)
                  have hm := iv_Md0.put (x := x271) a_h0 (j := 8) (fun h => absurd rfl h)
                  have hR := hR.lines (x := x271) a_h0 (by have w1 : x271.toInt = _ := e_x271; have w2 := congrArg Int32.toInt e266; have w3 : (1 : Int32).toInt = 1 := rfl; omega)
                  have h9 := iv_up_eq (G := G263) (a := h0) (k := (7, upd g264 8 x271, r265))
                  generalize iv_up G263 h0 _ = G272 at hB hm h9 hR
                  have hM := hM.stp hm (by decide)
                  generalize hgn_g273 : upd g264 _ _ = g273 at h9
                  have a_h0 := h9
                  have e9_g273 : x271 = g273 8 := by rw [← hgn_g273]; simp [upd]
                  have RS1 : rs h0 b gk gv gp N i1 os G272 := ⟨RS1.1, RS1.2.1.md hm (by decide), _, _, a_h0, RB1.1, by rw [← hgn_g273]; exact ⟨RB1.2.1, RB1.2.2⟩⟩
                  have RB1 := RS1.got a_h0
                  have hl1 : (g273 8).toInt = (l0 : Int) + 1 := by rw [← e9_g273]; have w := congrArg Int32.toInt e_x200; have w2 : x271.toInt = x200.toInt + 1 := e_x271; omega
                  have n_g273 : iv_R 0 400 (g273 1) := by rw [← hgn_g273]; exact n_g264
                  refine lv_aload_n hx hb dX7_readLawLine_160 rfl (lv_at hl 1 rfl) ?_
                  refine iv_getr X ft_X7 hB a_h0 sh_7 11 (by decide) rfl k_fl_X7_29 dX7_readLawLine_161 (fun b274 g_b274 r_b274 e_b274 a_b274 => ?_)
                  refine lv_aload_n hx hb dX7_readLawLine_164 rfl (lv_at hl 1 rfl) ?_
                  refine iv_geti0 X ft_X7 hB a_h0 sh_7 8 (by decide) rfl k_fl_X7_74 dX7_readLawLine_165 e9_g273 ?_
                  refine lv_aload_n hx hb dX7_readLawLine_168 rfl (lv_at hl 1 rfl) ?_
                  refine iv_geti X ft_X7 hB a_h0 sh_7 5 (by decide) rfl k_fl_X7_77 dX7_readLawLine_169 (fun x275 e_x275 i_x275 => ?_)
                  refine iv_ast X hB a_b274 sh_35 (iv_in i_x271 (by decide)) i_x275 dX7_readLawLine_172 (fun H locs hB => ?_)
                  have hm := iv_Md.ast (j := x271.toNatClampNeg) (x := x275) a_b274 rfl (by decide)
                  have hR := hR.starts (x := x275) a_h0 e_b274 a_b274 e9_g273 e_x275 (i_x271.wk (by decide))
                  have h9 := iv_up_eq (G := G272) (a := b274) (k := (35, upd g_b274 x271.toNatClampNeg x275, r_b274))
                  generalize iv_up G272 b274 _ = G276 at hB hm h9 hR
                  have hM := hM.stp hm.weak (by decide)
                  have a_h0 := hm.at a_h0 (by decide)
                  have RS1 : rs h0 b gk gv gp N i1 os G276 := ⟨RS1.1, RS1.2.1.md hm (by decide), _, _, a_h0, RB1⟩
                  refine lv_iconst (v := 1) hx hb dX7_readLawLine_173 (by decide) ?_
                  exact iv_zret X hr hlocks hB (q_1.wk (by decide)) ⟨⟨hM, fun g9 r9 h9 => by have h8 := a_h0.symm.trans h9; cases h8; exact n_g273⟩, (q_1.wk (by decide)), fun _ => hR, (⟨⟨fun _ => ⟨i1, hj1, RS1, CF1⟩, fun h => absurd h (by decide)⟩, fun _ g8 r8 h8 => by cases a_h0.symm.trans h8; exact hl1⟩)⟩ dX7_readLawLine_174
                · skip
                  have i277_x261 : iv_R 0 0 x261 := (i_x261.cutHi (n := 0) (iv_eq_r c269 q_0).2)
                  refine lv_iconst (v := 0) hx hb dX7_readLawLine_148 (by decide) ?_
                  exact iv_zret X hr hlocks hB (q_0.wk (by decide)) ⟨⟨hM, fun g9 r9 h9 => by have h8 := a_h0.symm.trans h9; cases h8; exact n_g264⟩, (q_0.wk (by decide)), fun h9 => absurd rfl h9, (⟨⟨fun h => absurd rfl h, fun _ => ⟨i1, 1, NO1 (fun q => (vt.2 c269).1 (Int32.toInt_inj.mp q)), (vt.2 c269).2⟩⟩, fun h => absurd rfl h⟩)⟩ dX7_readLawLine_149
              · skip
                have i278_x252 : iv_R 0 0 x252 := (i_x252.cutHi (n := 0) (iv_eq_r c259 q_0).2)
                refine lv_iconst (v := 0) hx hb dX7_readLawLine_137 (by decide) ?_
                exact iv_zret X hr hlocks hB (q_0.wk (by decide)) ⟨⟨hM, fun g9 r9 h9 => by have h8 := a_h0.symm.trans h9; cases h8; exact n_g254⟩, (q_0.wk (by decide)), fun h9 => absurd rfl h9, (⟨⟨fun h => absurd rfl h, fun _ => Q1.2 c259⟩, fun h => absurd rfl h⟩)⟩ dX7_readLawLine_138
          · skip
            have i279_x212 : iv_R 0 0 x212 := (i_x212.cutHi (n := 0) (iv_eq_r c218 q_0).2)
            refine lv_iconst (v := 0) hx hb dX7_readLawLine_100 (by decide) ?_
            exact iv_zret X hr hlocks hB (q_0.wk (by decide)) ⟨⟨hM, fun g9 r9 h9 => by have h8 := a_h0.symm.trans h9; cases h8; exact n_g214⟩, (q_0.wk (by decide)), fun h9 => absurd rfl h9, (⟨⟨fun h => absurd rfl h, fun _ => Q1.2 c218⟩, fun h => absurd rfl h⟩)⟩ dX7_readLawLine_101
        · skip
          have i280_x200 : iv_R 16 20 x200 := (i_x200.cutLo (n := 16) (iv_le_l (iv_nlt c201) q_16))
          refine lv_aload_n hx hb dX7_readLawLine_70 rfl (lv_at hl 1 rfl) ?_
          refine lv_iconst (v := 3) hx hb dX7_readLawLine_71 (by decide) ?_
          refine iv_cVi X k_good k_mf_X7_refuse k_im_X7_refuse k_sel_X7_refuse k_ml_X7_98 ft_X7 hB a_h0 sh_7 (As := [.int 3]) (e_X7_refuse l D tys base G h0 g_h0 r_h0 a_h0 n_g_h0 3 (q_3.wk (by decide)) gk gv gp (by rw [RB1.1]; exact RS1.2.1) i1 RB1.2.1.1) ⟨rfl, rfl⟩ ⟨Nat.le_of_ble_eq_true rfl, Nat.le_of_ble_eq_true rfl⟩ ⟨Nat.le_of_ble_eq_true rfl, Nat.le_of_ble_eq_true rfl⟩ rfl rfl hl.1 (Nat.le_of_ble_eq_true rfl) dX7_readLawLine_72 (fun x282 G9 H locs hq hB => ?_)
          obtain ⟨hm, i_x282, vf⟩ := hq
          obtain ⟨G283, hG9⟩ : ∃ g, g = G9 := ⟨_, rfl⟩
          rw [← hG9] at hm hB vf
          have hM := hM.stp hm.weak (by decide)
          have hR := hR.md hm (by decide) (by decide)
          obtain ⟨g284, r285, a_h0, f_g284⟩ := hm.ex a_h0
          have n_g284 := iv_nxt hB a_h0 f_g284 n_g_h0
          have e286 : x200 = g284 8 := e_x200.trans (f_g284.2.1 8 (show (8 : Nat) ∈ iv_stab 7 from by decide)).symm
          exact iv_zret X hr hlocks hB (i_x282.wk (by decide)) ⟨⟨hM, fun g9 r9 h9 => by have h8 := a_h0.symm.trans h9; cases h8; exact n_g284⟩, (i_x282.wk (by decide)), fun h9 => absurd (iv_z i_x282) h9, (⟨⟨fun h => absurd (iv_z i_x282) h, fun _ => ⟨i1, 3, rh_many ho CF1 (hU) (by have w := congrArg Int32.toInt e_x200; have w2 := Int32.le_iff_toInt_le.mp (iv_nlt c201); have e16 : (16 : Int32).toInt = 16 := rfl; omega), ⟨g284, r285, a_h0, vf _ _ a_h0⟩⟩⟩, fun h => absurd (iv_z i_x282) h⟩)⟩ dX7_readLawLine_75
      · skip
        exact (q_1.cutHi (n := 0) (iv_eq_r c199 q_0).2).no (by decide)
