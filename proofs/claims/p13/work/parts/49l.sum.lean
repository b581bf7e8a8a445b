/-- the reading (1 loud, 2 come and slack) that the flag tells -/
def tk_o (r : Nat) (os : Int32) : Prop := (os = 0 → r = 2) ∧ (¬ os = 0 → r = 1)
theorem tk_o.two {r : Nat} {os : Int32} (h : tk_o r os) : r = 1 ∨ r = 2 := by
  by_cases q : os = 0
  · exact Or.inr (h.1 q)
  · exact Or.inl (h.2 q)
def tk_k (g : Nat → Int32) : Nat → Int := fun i => (g i).toInt
def tk_UK (os k : Int32) : Prop := k = 2 ∨ (138 ≤ k.toInt ∧ k.toInt ≤ 142) ∨ (os = 0 ∧ 146 ≤ k.toInt ∧ k.toInt ≤ 148) ∨ (¬ os = 0 ∧ 143 ≤ k.toInt ∧ k.toInt ≤ 145)
theorem tk_UK.iff {r : Nat} {os k : Int32} (h : tk_o r os) : tk_UK os k ↔ tk_N r k.toInt = 2 ∨ (138 ≤ tk_N r k.toInt ∧ tk_N r k.toInt ≤ 148) := by
  have e2 : k = 2 ↔ k.toInt = 2 := ⟨fun q => by rw [q]; rfl, fun q => Int32.toInt_inj.mp q⟩
  unfold tk_UK tk_N
  rw [e2]
  by_cases q : os = 0
  · have hr := h.1 q
    subst hr
    rw [if_neg (show ¬ (2 : Nat) = 0 by decide), if_neg (show ¬ (2 : Nat) = 1 by decide)]
    constructor
    · rintro (w | w | w | w)
      · rw [if_pos (by omega)]
        omega
      · rw [if_neg (by omega), if_pos (by omega)]
        omega
      · rw [if_neg (by omega), if_neg (by omega), if_pos (by omega)]
        omega
      · exact absurd q w.1
    · intro w
      split at w
      · omega
      · split at w
        · omega
        · split at w
          · exact Or.inr (Or.inr (Or.inl ⟨q, by omega, by omega⟩))
          · omega
  · have hr := h.2 q
    subst hr
    rw [if_neg (show ¬ (1 : Nat) = 0 by decide), if_pos (show (1 : Nat) = 1 from rfl)]
    constructor
    · rintro (w | w | w | w)
      · rw [if_pos (by omega)]
        omega
      · rw [if_neg (by omega), if_pos (by omega)]
        omega
      · exact absurd w.1 q
      · rw [if_neg (by omega), if_neg (by omega), if_pos (by omega)]
        omega
    · intro w
      split at w
      · omega
      · split at w
        · omega
        · split at w
          · exact Or.inr (Or.inr (Or.inr ⟨q, by omega, by omega⟩))
          · omega
theorem tk_N.lo {r : Nat} {k : Int} (h : k < 128) : tk_N r k = k := if_pos h
theorem tk_N.mid {r : Nat} {k : Int} (hr : r = 1 ∨ r = 2) (h : 134 ≤ k ∧ k ≤ 142) : tk_N r k = k := by
  unfold tk_N
  rw [if_neg (by omega), if_neg (by omega), if_pos h]
/-- a kind below 143 that is no word of HOURS stands for itself -/
theorem tk_N.inv {r : Nat} {k v : Int} (hr : r = 1 ∨ r = 2) (h : tk_N r k = v) (hv : ¬ v = 1) : k = v := by
  unfold tk_N at h
  rw [if_neg (show ¬ r = 0 by omega)] at h
  split at h
  · exact h
  · split at h
    · exact h
    · split at h
      · split at h
        · exact h
        · omega
      · split at h
        · exact h
        · omega
section
variable {r n : Nat} {gk gv : Nat → Int32} {os : Int32} {i l c d : Nat} {st : List Nat}
theorem ru_ok (ho : tk_o r os) (h : tk_at r n (tk_k gk) (tk_k gv) i (.unit l c d st)) (u : tk_UK os (gk i)) : tk_cf r n (tk_k gk) (tk_k gv) (i + 1) = .aft l c d st := h.trans (if_pos ((tk_UK.iff ho).mp u))
theorem ru_no (ho : tk_o r os) (h : tk_at r n (tk_k gk) (tk_k gv) i (.unit l c d st)) (u : ¬ tk_UK os (gk i)) : tk_F r n (tk_k gk) (tk_k gv) i 1 := h.trans (if_neg (fun q => u ((tk_UK.iff ho).mpr q)))
theorem ra_sum (h : tk_cf r n (tk_k gk) (tk_k gv) i = .aft l c d st) (u : (gk i).toInt = 43 ∨ (gk i).toInt = 45 ∨ (gk i).toInt = 42) : tk_cf r n (tk_k gk) (tk_k gv) (i + 1) = .unit l c d st := by
  refine (tk_at.of h).trans ?_
  have e : tk_N r (tk_k gk i) = (gk i).toInt := tk_N.lo (show (gk i).toInt < 128 by omega)
  rw [e]
  exact if_pos (by omega)
theorem ra_part (h : tk_cf r n (tk_k gk) (tk_k gv) i = .aft l c d st) (u : (gk i).toInt = 47) : tk_cf r n (tk_k gk) (tk_k gv) (i + 1) = .part l c d st := by
  refine (tk_at.of h).trans ?_
  have e : tk_N r (tk_k gk i) = (gk i).toInt := tk_N.lo (show (gk i).toInt < 128 by omega)
  rw [e]
  exact (if_neg (by omega)).trans (if_pos u)
theorem rp_ok (h : tk_cf r n (tk_k gk) (tk_k gv) i = .part l c d st) (u : gk i = 2) (v1 : 1 ≤ (gv i).toInt) (v2 : (gv i).toInt ≤ 9999) : tk_cf r n (tk_k gk) (tk_k gv) (i + 1) = .aft l c d st := by
  refine (tk_at.of h).trans ?_
  have e : tk_N r (tk_k gk i) = 2 := (tk_N.lo (show (gk i).toInt < 128 by rw [u]; decide)).trans (by show (gk i).toInt = 2; rw [u]; rfl)
  rw [e]
  exact if_neg (show ¬ ((gv i).toInt < 1 ∨ 9999 < (gv i).toInt) by omega)
theorem rp_no (hr : r = 1 ∨ r = 2) (h : tk_cf r n (tk_k gk) (tk_k gv) i = .part l c d st) (u : ¬ gk i = 2) : tk_F r n (tk_k gk) (tk_k gv) i 1 := by
  refine (tk_at.of h).trans ?_
  exact if_pos (fun q => u (Int32.toInt_inj.mp (tk_N.inv hr q (by decide))))
theorem rp_out (h : tk_cf r n (tk_k gk) (tk_k gv) i = .part l c d st) (u : gk i = 2) (v : (gv i).toInt < 1 ∨ 9999 < (gv i).toInt) : tk_F r n (tk_k gk) (tk_k gv) i 2 := by
  refine (tk_at.of h).trans ?_
  have e : tk_N r (tk_k gk i) = 2 := (tk_N.lo (show (gk i).toInt < 128 by rw [u]; decide)).trans (by show (gk i).toInt = 2; rw [u]; rfl)
  rw [e]
  exact if_pos v
theorem rl_cmp (h : tk_cf r n (tk_k gk) (tk_k gv) i = .aft l 1 d st) (u : (gk i).toInt = 60 ∨ (gk i).toInt = 61 ∨ (gk i).toInt = 62) : tk_cf r n (tk_k gk) (tk_k gv) (i + 1) = .unit l 2 d st := by
  refine (tk_at.of h).trans ?_
  have e : tk_N r (tk_k gk i) = (gk i).toInt := tk_N.lo (show (gk i).toInt < 128 by omega)
  rw [e]
  exact (if_neg (by omega)).trans ((if_neg (by omega)).trans ((if_neg (by decide)).trans ((if_pos rfl).trans (if_pos u))))
end
def tk_SG (k : Int32) : Prop := k.toInt = 43 ∨ k.toInt = 45 ∨ k.toInt = 42 ∨ k.toInt = 47
/-- how a reading method of the class ends: v tells whether well -/
def qs (h0 b : Nat) (gk gv gp : Nat → Int32) (N : Nat) (os : Int32) (r n : Nat) (j : Nat) (Q : Nat → Prop) (v : Int32) (G : iv_G) : Prop := (¬ v = 0 → ∃ i : Nat, j ≤ i ∧ rs h0 b gk gv gp N i os G ∧ Q i) ∧ (v = 0 → ∃ i k : Nat, tk_F r n (tk_k gk) (tk_k gv) i k ∧ rt h0 gp k i G)
theorem rs.lt {h0 b : Nat} {gk gv gp : Nat → Int32} {N i : Nat} {os : Int32} {G : iv_G} (h : rs h0 b gk gv gp N i os G) (hN : (gk N).toInt = 0) (q : ¬ (gk i).toInt = 0) : i < N := by
  rcases Nat.lt_or_eq_of_le h.1 with w | w
  · exact w
  · rw [w] at q
    exact absurd hN q
set_option maxHeartbeats 4000000 in
set_option maxRecDepth 100000 in
theorem e_X7_readSum (l : Launch) (D : va_G) (tys : List (ClassId × FieldType)) (base : Nat) (G : iv_G) (h0 : Nat) (g_h0 : Nat → Int32) (r_h0 : Nat → Nat) (a_h0 : G h0 = some (7, g_h0, r_h0)) (n_g_h0 : iv_R 0 400 (g_h0 1)) (b : Nat) (gk gv gp : Nat → Int32) (N : Nat) (hN : (gk N).toInt = 0) (hN4 : N ≤ 400) (i : Nat) (os : Int32) (RS : rs h0 b gk gv gp N i os G) (rr0 nn0 : Nat) (ho : tk_o rr0 os) (ll0 cc0 dd0 : Nat) (ss0 : List Nat) (AT : tk_at rr0 nn0 (tk_k gk) (tk_k gv) i (.unit ll0 cc0 dd0 ss0)) : Met l yX7_readSum (Cond.code yX7_readSum cX7_readSum 6 (some .boolean) :: iv_W0) ({ frames := 2, cells := 0, slots := 0, locals := 44 }) (iv_Pc iv_sh D classes tys base G [.ref h0]) (iv_Qi iv_sh D classes tys base (fun v G' => iv_Md [7, 37, 38] G G' ∧ iv_R 0 1 v ∧ (qs h0 b gk gv gp N os rr0 nn0 (i + 1) (fun i' => tk_cf rr0 nn0 (tk_k gk) (tk_k gv) i' = .aft ll0 cc0 dd0 ss0 ∧ ¬ tk_SG (gk i')) v G'))) 0 0 (iv_A base) := by
  refine iv_head (by decide) (Nat.le_of_ble_eq_true rfl) ?_
  intro p e s m args below meth c ls X hr hlocks hname hB hl
  have X := X
  have hx := X.1.1
  have hb := X.1.2.1
  have hM : iv_Md [7, 37, 38] G G := iv_Md.rf
  have hl : lv_has ls 6 [(0, .ref h0)] := hl
  refine lv_iconst (v := 0) hx hb dX7_readSum_0 (by decide) ?_
  refine lv_istore_n (lv' := [(1, .int 0), (0, .ref h0)]) hx hb dX7_readSum_1 rfl hl (by decide) rfl (fun ls hl => ?_)
  refine lv_aload_n hx hb dX7_readSum_2 rfl (lv_at hl 1 rfl) ?_
  refine iv_cVi X k_good k_mf_X7_readUnit k_im_X7_readUnit k_sel_X7_readUnit k_ml_X7_135 ft_X7 hB a_h0 sh_7 (As := []) (e_X7_readUnit l D tys base G h0 g_h0 r_h0 a_h0 n_g_h0 b gk gv gp N hN hN4 i os RS) ⟨rfl, rfl⟩ ⟨Nat.le_of_ble_eq_true rfl, Nat.le_of_ble_eq_true rfl⟩ ⟨Nat.le_of_ble_eq_true rfl, Nat.le_of_ble_eq_true rfl⟩ rfl rfl hl.1 (Nat.le_of_ble_eq_true rfl) dX7_readSum_3 (fun x1 G9 H locs hq hB => ?_)
  obtain ⟨hm, i_x1, vu⟩ := hq
  obtain ⟨G2, hG9⟩ : ∃ g, g = G9 := ⟨_, rfl⟩
  rw [← hG9] at hm hB vu
  have hM := hM.stp hm (by decide)
  obtain ⟨g3, r4, a_h0, f_g3⟩ := hm.ex a_h0
  have n_g3 := iv_nxt hB a_h0 f_g3 n_g_h0
  refine lv_istore_n (lv' := [(2, .int x1), (1, .int 0), (0, .ref h0)]) hx hb dX7_readSum_6 rfl hl (by decide) rfl (fun ls hl => ?_)
  refine lv_iconst (v := 0) hx hb dX7_readSum_7 (by decide) ?_
  refine lv_istore_n (lv' := [(3, .int 0), (2, .int x1), (1, .int 0), (0, .ref h0)]) hx hb dX7_readSum_8 rfl hl (by decide) rfl (fun ls hl => ?_)
  have L_9 : ∀ (n_9 : Nat) (G10 : iv_G) (hM : iv_Md [7, 37, 38] G G10) (H : Heap) (locs : List Loc) (hB : iv_B iv_sh D classes tys base G10 s.heap H locs) (g8 : Nat → Int32) (r9 : Nat → Nat) (a_h0 : G10 h0 = some (7, g8, r9)) (n_g8 : iv_R 0 400 (g8 1)) (x5 : Int32) (i_x5 : iv_R 0 46 x5) (x6 : Int32) (i_x6 : iv_R 0 1 x6) (x7 : Int32) (i_x7 : iv_R 0 400 x7) (hn_9 : (401 - x7.toInt).toNat < n_9) (gi_9 : qs h0 b gk gv gp N os rr0 nn0 (x7.toInt.toNat + 1) (fun i' => i + 1 ≤ i' ∧ tk_cf rr0 nn0 (tk_k gk) (tk_k gv) i' = .aft ll0 cc0 dd0 ss0) x6 G10) (ls : Array Slot) (hl : lv_has ls 6 [(3, .int x7), (2, .int x6), (1, .int x5), (0, .ref h0)]), W p l e ({ frames := 2, cells := 0, slots := 0, locals := 44 } : Room) s m args below meth c H locs 0 0 (MQ below (iv_Qi iv_sh D classes tys base (fun v G' => iv_Md [7, 37, 38] G G' ∧ iv_R 0 1 v ∧ (qs h0 b gk gv gp N os rr0 nn0 (i + 1) (fun i' => tk_cf rr0 nn0 (tk_k gk) (tk_k gv) i' = .aft ll0 cc0 dd0 ss0 ∧ ¬ tk_SG (gk i')) v G'))) args s 0 0 (iv_A base)) (F0 m 9 ls []) := by
    intro n_9
    induction n_9 with
    | zero => intro G10 hM H locs hB g8 r9 a_h0 n_g8 x5 i_x5 x6 i_x6 x7 i_x7 hn_9 gi_9 ls hl; exact absurd hn_9 (Nat.not_lt_zero _)
    | succ n_9 ih_9 =>
      intro G10 hM H locs hB g8 r9 a_h0 n_g8 x5 i_x5 x6 i_x6 x7 i_x7 hn_9 gi_9 ls hl
      refine lv_iload_n hx hb dX7_readSum_9 rfl (lv_at hl 0 rfl) ?_
      refine lv_sipush (v := 400) hx hb dX7_readSum_10 (by decide) ?_
      refine lv_icmp_ge (tgt := 114) hx hb dX7_readSum_13 (by decide) (fun c11 => ?_) (fun c11 => ?_)
      · skip
        have i11_x7 : iv_R 400 400 x7 := (i_x7.cutLo (n := 400) (iv_le_l c11 q_400))
        refine lv_aload_n hx hb dX7_readSum_114 rfl (lv_at hl 3 rfl) ?_
        refine lv_iload_n hx hb dX7_readSum_115 rfl (lv_at hl 2 rfl) ?_
        refine iv_cVv X k_good k_mf_X7_emitWaiting k_im_X7_emitWaiting k_sel_X7_emitWaiting k_ml_X7_121 ft_X7 hB a_h0 sh_7 (As := [.int x5]) (e_X7_emitWaiting l D tys base G10 h0 g8 r9 a_h0 x5 (i_x5.wk (by decide))) ⟨rfl, rfl⟩ ⟨Nat.le_of_ble_eq_true rfl, Nat.le_of_ble_eq_true rfl⟩ ⟨Nat.le_of_ble_eq_true rfl, Nat.le_of_ble_eq_true rfl⟩ rfl rfl hl.1 (Nat.le_of_ble_eq_true rfl) dX7_readSum_116 (fun G9 H locs hq hB => ?_)
        obtain ⟨hm, hk⟩ := hq
        obtain ⟨G13, hG9⟩ : ∃ g, g = G9 := ⟨_, rfl⟩
        rw [← hG9] at hm hB hk
        have hM := hM.stp hm (by decide)
        obtain ⟨g14, r15, a_h0, f_g14⟩ := hm.ex a_h0
        have n_g14 := iv_nxt hB a_h0 f_g14 n_g8
        refine lv_iload_n hx hb dX7_readSum_119 rfl (lv_at hl 1 rfl) ?_
        exact iv_zret X hr hlocks hB i_x6 ⟨hM, i_x6, (⟨fun h => by obtain ⟨i', h1, h3, h4⟩ := gi_9.1 h; exact absurd h3.1 (by have w := i11_x7.1; omega), fun h => by obtain ⟨i', k', h1, h2⟩ := gi_9.2 h; exact ⟨i', k', h1, h2.ke hk⟩⟩)⟩ dX7_readSum_120
      · skip
        have i15_x7 : iv_R 0 399 x7 := (i_x7.cutHi (n := 399) (iv_lt_r (iv_nle c11) q_400 (by decide)))
        refine lv_iload_n hx hb dX7_readSum_16 rfl (lv_at hl 1 rfl) ?_
        refine lv_if_eq (tgt := 114) hx hb dX7_readSum_17 (by decide) (fun c17 => ?_) (fun c17 => ?_)
        · skip
          have i17_x6 : iv_R 0 0 x6 := (i_x6.cutHi (n := 0) (iv_eq_r c17 q_0).2)
          refine lv_aload_n hx hb dX7_readSum_114 rfl (lv_at hl 3 rfl) ?_
          refine lv_iload_n hx hb dX7_readSum_115 rfl (lv_at hl 2 rfl) ?_
          refine iv_cVv X k_good k_mf_X7_emitWaiting k_im_X7_emitWaiting k_sel_X7_emitWaiting k_ml_X7_121 ft_X7 hB a_h0 sh_7 (As := [.int x5]) (e_X7_emitWaiting l D tys base G10 h0 g8 r9 a_h0 x5 (i_x5.wk (by decide))) ⟨rfl, rfl⟩ ⟨Nat.le_of_ble_eq_true rfl, Nat.le_of_ble_eq_true rfl⟩ ⟨Nat.le_of_ble_eq_true rfl, Nat.le_of_ble_eq_true rfl⟩ rfl rfl hl.1 (Nat.le_of_ble_eq_true rfl) dX7_readSum_116 (fun G9 H locs hq hB => ?_)
          obtain ⟨hm, hk⟩ := hq
          obtain ⟨G19, hG9⟩ : ∃ g, g = G9 := ⟨_, rfl⟩
          rw [← hG9] at hm hB hk
          have hM := hM.stp hm (by decide)
          obtain ⟨g20, r21, a_h0, f_g20⟩ := hm.ex a_h0
          have n_g20 := iv_nxt hB a_h0 f_g20 n_g8
          refine lv_iload_n hx hb dX7_readSum_119 rfl (lv_at hl 1 rfl) ?_
          exact iv_zret X hr hlocks hB (i17_x6.wk (by decide)) ⟨hM, (i17_x6.wk (by decide)), (⟨fun h => absurd c17 h, fun h => by obtain ⟨i', k', h1, h2⟩ := gi_9.2 h; exact ⟨i', k', h1, h2.ke hk⟩⟩)⟩ dX7_readSum_120
        · skip
          have i21_x6 : iv_R 1 1 x6 := iv_ne_lo c17 i_x6 q_0 (by decide)
          obtain ⟨i1, hj1, RS1, hj2⟩ := gi_9.1 c17
          have RB1 := RS1.got a_h0
          refine lv_aload_n hx hb dX7_readSum_20 rfl (lv_at hl 3 rfl) ?_
          refine iv_geti X ft_X7 hB a_h0 sh_7 2 (by decide) rfl k_fl_X7_53 dX7_readSum_21 (fun x23 e_x23 i_x23 => ?_)
          have hx23 : x23 = gk i1 := e_x23.trans RB1.2.1.2.1
          refine iv_cSi X k_good k_mf_X7_isSignOfSums k_st_X7_isSignOfSums k_ml_X7_138 hB (As := [.int x23]) (e_X7_isSignOfSums l D tys base G10 x23 i_x23) ⟨rfl, rfl⟩ ⟨Nat.le_of_ble_eq_true rfl, Nat.le_of_ble_eq_true rfl⟩ ⟨Nat.le_of_ble_eq_true rfl, Nat.le_of_ble_eq_true rfl⟩ rfl rfl hl.1 (Nat.le_of_ble_eq_true rfl) dX7_readSum_24 (fun x24 G9 H locs hq hB => ?_)
          obtain ⟨rfl, i_x24, hp25, ex24⟩ := hq
          refine lv_if_eq (tgt := 114) hx hb dX7_readSum_27 (by decide) (fun c26 => ?_) (fun c26 => ?_)
          · skip
            have i26_x24 : iv_R 0 0 x24 := (i_x24.cutHi (n := 0) (iv_eq_r c26 q_0).2)
            refine lv_aload_n hx hb dX7_readSum_114 rfl (lv_at hl 3 rfl) ?_
            refine lv_iload_n hx hb dX7_readSum_115 rfl (lv_at hl 2 rfl) ?_
            refine iv_cVv X k_good k_mf_X7_emitWaiting k_im_X7_emitWaiting k_sel_X7_emitWaiting k_ml_X7_121 ft_X7 hB a_h0 sh_7 (As := [.int x5]) (e_X7_emitWaiting l D tys base G10 h0 g8 r9 a_h0 x5 (i_x5.wk (by decide))) ⟨rfl, rfl⟩ ⟨Nat.le_of_ble_eq_true rfl, Nat.le_of_ble_eq_true rfl⟩ ⟨Nat.le_of_ble_eq_true rfl, Nat.le_of_ble_eq_true rfl⟩ rfl rfl hl.1 (Nat.le_of_ble_eq_true rfl) dX7_readSum_116 (fun G9 H locs hq hB => ?_)
            obtain ⟨hm, hk⟩ := hq
            obtain ⟨G28, hG9⟩ : ∃ g, g = G9 := ⟨_, rfl⟩
            rw [← hG9] at hm hB hk
            have hM := hM.stp hm (by decide)
            obtain ⟨g29, r30, a_h0, f_g29⟩ := hm.ex a_h0
            have n_g29 := iv_nxt hB a_h0 f_g29 n_g8
            refine lv_iload_n hx hb dX7_readSum_119 rfl (lv_at hl 1 rfl) ?_
            exact iv_zret X hr hlocks hB (i21_x6.wk (by decide)) ⟨hM, (i21_x6.wk (by decide)), (⟨fun _ => ⟨i1, hj2.1, RS1.ke hk hm (by decide), hj2.2, fun q => (ex24.mpr (by rw [hx23]; exact q)) c26⟩, fun h => absurd h c17⟩)⟩ dX7_readSum_120
          · skip
            have i30_x24 : iv_R 1 1 x24 := iv_ne_lo c26 i_x24 q_0 (by decide)
            have i31_x23 : iv_R 42 47 x23 := ((i_x23.cutLo (n := 42) (hp25 c26).1).cutHi (n := 47) (hp25 c26).2)
            have hlt1 : i1 < N := RS1.lt hN (by rw [← hx23]; have w := i31_x23.1; omega)
            have hsg := ex24.mp c26
            refine lv_aload_n hx hb dX7_readSum_30 rfl (lv_at hl 3 rfl) ?_
            refine iv_geti0 X ft_X7 hB a_h0 sh_7 2 (by decide) rfl k_fl_X7_53 dX7_readSum_31 e_x23 ?_
            refine lv_istore (lv' := [(4, .int x23), (3, .int x7), (2, .int x6), (1, .int x5), (0, .ref h0)]) hx hb dX7_readSum_34 hl (by decide) rfl (fun ls hl => ?_)
            refine lv_aload_n hx hb dX7_readSum_36 rfl (lv_at hl 4 rfl) ?_
            refine iv_cVv X k_good k_mf_X7_step k_im_X7_step k_sel_X7_step k_ml_X7_83 ft_X7 hB a_h0 sh_7 (As := []) (e_X7_step l D tys base G10 h0 g8 r9 a_h0 gk gv gp (by rw [RB1.1]; exact RS1.2.1) (i1 + 1) (by omega) (by rw [RB1.2.1.1]; omega)) ⟨rfl, rfl⟩ ⟨Nat.le_of_ble_eq_true rfl, Nat.le_of_ble_eq_true rfl⟩ ⟨Nat.le_of_ble_eq_true rfl, Nat.le_of_ble_eq_true rfl⟩ rfl rfl hl.1 (Nat.le_of_ble_eq_true rfl) dX7_readSum_37 (fun G9 H locs hq hB => ?_)
            obtain ⟨hm, vg, vc⟩ := hq
            obtain ⟨G33, hG9⟩ : ∃ g, g = G9 := ⟨_, rfl⟩
            rw [← hG9] at hm hB vg vc
            have hM := hM.stp hm (by decide)
            obtain ⟨g34, r35, a_h0, f_g34⟩ := hm.ex a_h0
            have n_g34 := iv_nxt hB a_h0 f_g34 n_g8
            have RS2 : rs h0 b gk gv gp N (i1 + 1) os G33 := ⟨hlt1, RS1.2.1.md hm (by decide), g34, r35, a_h0, (f_g34.1 0 (fun h => absurd (show (7 : Nat) = 5 from h) (by decide))).trans RB1.1, (vc _ _ a_h0).1, (f_g34.2.1 4 (show (4 : Nat) ∈ iv_stab 7 from by decide)).trans RB1.2.2.1, (vc _ _ a_h0).2.1.trans RB1.2.2.2.1, (vc _ _ a_h0).2.2.trans RB1.2.2.2.2⟩
            have vg36 := vg _ _ a_h0
            refine lv_iload hx hb dX7_readSum_40 (lv_at hl 0 rfl) ?_
            refine lv_bipush (v := 47) hx hb dX7_readSum_42 (by decide) ?_
            refine lv_icmp_ne (tgt := 73) hx hb dX7_readSum_44 (by decide) (fun c37 => ?_) (fun c37 => ?_)
            · skip
              have i37_x23 : iv_R 42 46 x23 := iv_ne_hi c37 i31_x23 q_47 (by decide)
              refine lv_iload hx hb dX7_readSum_73 (lv_at hl 0 rfl) ?_
              refine lv_bipush (v := 42) hx hb dX7_readSum_75 (by decide) ?_
              refine lv_icmp_ne (tgt := 95) hx hb dX7_readSum_77 (by decide) (fun c39 => ?_) (fun c39 => ?_)
              · skip
                have i39_x23 : iv_R 43 46 x23 := iv_ne_lo c39 i37_x23 q_42 (by decide)
                have CF2 := ra_sum hj2.2 (by rw [← hx23]; have w := i39_x23.2; omega)
                refine lv_aload_n hx hb dX7_readSum_95 rfl (lv_at hl 4 rfl) ?_
                refine lv_iload_n hx hb dX7_readSum_96 rfl (lv_at hl 3 rfl) ?_
                refine iv_cVv X k_good k_mf_X7_emitWaiting k_im_X7_emitWaiting k_sel_X7_emitWaiting k_ml_X7_121 ft_X7 hB a_h0 sh_7 (As := [.int x5]) (e_X7_emitWaiting l D tys base G33 h0 g34 r35 a_h0 x5 (i_x5.wk (by decide))) ⟨rfl, rfl⟩ ⟨Nat.le_of_ble_eq_true rfl, Nat.le_of_ble_eq_true rfl⟩ ⟨Nat.le_of_ble_eq_true rfl, Nat.le_of_ble_eq_true rfl⟩ rfl rfl hl.1 (Nat.le_of_ble_eq_true rfl) dX7_readSum_97 (fun G9 H locs hq hB => ?_)
                obtain ⟨hm, hk⟩ := hq
                obtain ⟨G41, hG9⟩ : ∃ g, g = G9 := ⟨_, rfl⟩
                rw [← hG9] at hm hB hk
                have hM := hM.stp hm (by decide)
                obtain ⟨g42, r43, a_h0, f_g42⟩ := hm.ex a_h0
                have n_g42 := iv_nxt hB a_h0 f_g42 vg36
                have RS2 := RS2.ke hk hm (by decide)
                refine lv_iload hx hb dX7_readSum_100 (lv_at hl 0 rfl) ?_
                refine lv_istore_n (lv' := [(1, .int x23), (4, .int x23), (3, .int x7), (2, .int x6), (0, .ref h0)]) hx hb dX7_readSum_102 rfl hl (by decide) rfl (fun ls hl => ?_)
                refine lv_aload_n hx hb dX7_readSum_103 rfl (lv_at hl 4 rfl) ?_
                refine iv_cVi X k_good k_mf_X7_readUnit k_im_X7_readUnit k_sel_X7_readUnit k_ml_X7_135 ft_X7 hB a_h0 sh_7 (As := []) (e_X7_readUnit l D tys base G41 h0 g42 r43 a_h0 n_g42 b gk gv gp N hN hN4 (i1 + 1) os RS2) ⟨rfl, rfl⟩ ⟨Nat.le_of_ble_eq_true rfl, Nat.le_of_ble_eq_true rfl⟩ ⟨Nat.le_of_ble_eq_true rfl, Nat.le_of_ble_eq_true rfl⟩ rfl rfl hl.1 (Nat.le_of_ble_eq_true rfl) dX7_readSum_104 (fun x44 G9 H locs hq hB => ?_)
                obtain ⟨hm, i_x44, vu⟩ := hq
                obtain ⟨G45, hG9⟩ : ∃ g, g = G9 := ⟨_, rfl⟩
                rw [← hG9] at hm hB vu
                have hM := hM.stp hm (by decide)
                obtain ⟨g46, r47, a_h0, f_g46⟩ := hm.ex a_h0
                have n_g46 := iv_nxt hB a_h0 f_g46 n_g42
                refine lv_istore_n (lv' := [(2, .int x44), (1, .int x23), (4, .int x23), (3, .int x7), (0, .ref h0)]) hx hb dX7_readSum_107 rfl hl (by decide) rfl (fun ls hl => ?_)
                refine iv_iinc hx hb i15_x7 (lo := 1) (hi := 400) (by decide) dX7_readSum_108 hl (k := 3) rfl (by decide) (fun x48 ls e_x48 i_x48 hl => ?_)
                have hl : lv_has ls 6 [(3, .int x48), (2, .int x44), (1, .int x23), (4, .int x23), (0, .ref h0)] := hl
                refine lv_goto (tgt := 9) hx hb dX7_readSum_111 (by decide) ?_
                exact ih_9 G45 hM _ _ hB g46 r47 a_h0 n_g46 x23 (i39_x23.wk (by decide)) x44 i_x44 x48 (i_x48.wk (by decide)) (iv_mup (c := 1) i_x7 (by decide) (by decide) (by omega) hn_9) ⟨fun h => ⟨i1 + 1 + 1, by have w1 : x48.toInt = x7.toInt + 1 := e_x48; have w2 := i15_x7.1; omega, ((vu.1 h).2.2), by have w := hj2.1; omega, ru_ok ho (tk_at.of CF2) (vu.1 h).1⟩, fun h => ⟨i1 + 1, 1, ru_no ho (tk_at.of CF2) (vu.2 h).1, ((vu.2 h).2)⟩⟩ _ (lv_sub hl [0, 1, 2, 4] rfl)
              · skip
                have i48_x23 : iv_R 42 42 x23 := (i37_x23.cutHi (n := 42) (iv_eq_r c39 q_42).2)
                have CF2 := ra_sum hj2.2 (by rw [← hx23]; have w := i48_x23.2; have w2 := i48_x23.1; omega)
                refine lv_aload_n hx hb dX7_readSum_80 rfl (lv_at hl 4 rfl) ?_
                refine iv_cVi X k_good k_mf_X7_readUnit k_im_X7_readUnit k_sel_X7_readUnit k_ml_X7_135 ft_X7 hB a_h0 sh_7 (As := []) (e_X7_readUnit l D tys base G33 h0 g34 r35 a_h0 vg36 b gk gv gp N hN hN4 (i1 + 1) os RS2) ⟨rfl, rfl⟩ ⟨Nat.le_of_ble_eq_true rfl, Nat.le_of_ble_eq_true rfl⟩ ⟨Nat.le_of_ble_eq_true rfl, Nat.le_of_ble_eq_true rfl⟩ rfl rfl hl.1 (Nat.le_of_ble_eq_true rfl) dX7_readSum_81 (fun x50 G9 H locs hq hB => ?_)
                obtain ⟨hm, i_x50, vu⟩ := hq
                obtain ⟨G51, hG9⟩ : ∃ g, g = G9 := ⟨_, rfl⟩
                rw [← hG9] at hm hB vu
                have hM := hM.stp hm (by decide)
                obtain ⟨g52, r53, a_h0, f_g52⟩ := hm.ex a_h0
                have n_g52 := iv_nxt hB a_h0 f_g52 vg36
                refine lv_istore_n (lv' := [(2, .int x50), (4, .int x23), (3, .int x7), (1, .int x5), (0, .ref h0)]) hx hb dX7_readSum_84 rfl hl (by decide) rfl (fun ls hl => ?_)
                refine lv_aload_n hx hb dX7_readSum_85 rfl (lv_at hl 4 rfl) ?_
                refine lv_bipush (v := 42) hx hb dX7_readSum_86 (by decide) ?_
                refine lv_iconst (v := 0) hx hb dX7_readSum_88 (by decide) ?_
                refine iv_cVv X k_good k_mf_X7_emit k_im_X7_emit k_sel_X7_emit k_ml_X7_125 ft_X7 hB a_h0 sh_7 (As := [.int 42, .int 0]) (e_X7_emit l D tys base G51 h0 g52 r53 a_h0 42 (q_42.wk (by decide)) 0 (q_0.wk (by decide))) ⟨rfl, rfl⟩ ⟨Nat.le_of_ble_eq_true rfl, Nat.le_of_ble_eq_true rfl⟩ ⟨Nat.le_of_ble_eq_true rfl, Nat.le_of_ble_eq_true rfl⟩ rfl rfl hl.1 (Nat.le_of_ble_eq_true rfl) dX7_readSum_89 (fun G9 H locs hq hB => ?_)
                obtain ⟨hm, hk⟩ := hq
                obtain ⟨G54, hG9⟩ : ∃ g, g = G9 := ⟨_, rfl⟩
                rw [← hG9] at hm hB hk
                have hM := hM.stp hm (by decide)
                obtain ⟨g55, r56, a_h0, f_g55⟩ := hm.ex a_h0
                have n_g55 := iv_nxt hB a_h0 f_g55 n_g52
                refine lv_goto (tgt := 108) hx hb dX7_readSum_92 (by decide) ?_
                refine iv_iinc hx hb i15_x7 (lo := 1) (hi := 400) (by decide) dX7_readSum_108 hl (k := 2) rfl (by decide) (fun x57 ls e_x57 i_x57 hl => ?_)
                have hl : lv_has ls 6 [(3, .int x57), (2, .int x50), (4, .int x23), (1, .int x5), (0, .ref h0)] := hl
                refine lv_goto (tgt := 9) hx hb dX7_readSum_111 (by decide) ?_
                exact ih_9 G54 hM _ _ hB g55 r56 a_h0 n_g55 x5 i_x5 x50 i_x50 x57 (i_x57.wk (by decide)) (iv_mup (c := 1) i_x7 (by decide) (by decide) (by omega) hn_9) ⟨fun h => ⟨i1 + 1 + 1, by have w1 : x57.toInt = x7.toInt + 1 := e_x57; have w2 := i15_x7.1; omega, ((vu.1 h).2.2).ke hk hm (by decide), by have w := hj2.1; omega, ru_ok ho (tk_at.of CF2) (vu.1 h).1⟩, fun h => ⟨i1 + 1, 1, ru_no ho (tk_at.of CF2) (vu.2 h).1, ((vu.2 h).2).ke hk⟩⟩ _ (lv_sub hl [0, 1, 3, 4] rfl)
            · skip
              have i57_x23 : iv_R 47 47 x23 := (i31_x23.cutLo (n := 47) (iv_eq_r c37 q_47).1)
              have CF2 := ra_part hj2.2 (by rw [← hx23]; have w := i57_x23.2; have w2 := i57_x23.1; omega)
              refine lv_aload_n hx hb dX7_readSum_47 rfl (lv_at hl 4 rfl) ?_
              refine iv_geti X ft_X7 hB a_h0 sh_7 3 (by decide) rfl k_fl_X7_92 dX7_readSum_48 (fun x59 e_x59 i_x59 => ?_)
              refine lv_istore (lv' := [(5, .int x59), (4, .int x23), (3, .int x7), (2, .int x6), (1, .int x5), (0, .ref h0)]) hx hb dX7_readSum_51 hl (by decide) rfl (fun ls hl => ?_)
              refine lv_aload_n hx hb dX7_readSum_53 rfl (lv_at hl 5 rfl) ?_
              refine lv_iconst (v := 1) hx hb dX7_readSum_54 (by decide) ?_
              refine lv_sipush (v := 9999) hx hb dX7_readSum_55 (by decide) ?_
              refine iv_cVi X k_good k_mf_X7_takesNumber k_im_X7_takesNumber k_sel_X7_takesNumber k_ml_X7_108 ft_X7 hB a_h0 sh_7 (As := [.int 1, .int 9999]) (e_X7_takesNumber l D tys base G33 h0 g34 r35 a_h0 vg36 1 (q_1.wk (by decide)) 9999 (q_9999.wk (by decide)) b gk gv gp N hN hN4 (i1 + 1) os RS2) ⟨rfl, rfl⟩ ⟨Nat.le_of_ble_eq_true rfl, Nat.le_of_ble_eq_true rfl⟩ ⟨Nat.le_of_ble_eq_true rfl, Nat.le_of_ble_eq_true rfl⟩ rfl rfl hl.1 (Nat.le_of_ble_eq_true rfl) dX7_readSum_58 (fun x60 G9 H locs hq hB => ?_)
              obtain ⟨hm, i_x60, vu⟩ := hq
              obtain ⟨G61, hG9⟩ : ∃ g, g = G9 := ⟨_, rfl⟩
              rw [← hG9] at hm hB vu
              have hM := hM.stp hm (by decide)
              obtain ⟨g62, r63, a_h0, f_g62⟩ := hm.ex a_h0
              have n_g62 := iv_nxt hB a_h0 f_g62 vg36
              refine lv_istore_n (lv' := [(2, .int x60), (5, .int x59), (4, .int x23), (3, .int x7), (1, .int x5), (0, .ref h0)]) hx hb dX7_readSum_61 rfl hl (by decide) rfl (fun ls hl => ?_)
              refine lv_aload_n hx hb dX7_readSum_62 rfl (lv_at hl 5 rfl) ?_
              refine lv_bipush (v := 47) hx hb dX7_readSum_63 (by decide) ?_
              refine lv_iload hx hb dX7_readSum_65 (lv_at hl 1 rfl) ?_
              refine iv_cVv X k_good k_mf_X7_emit k_im_X7_emit k_sel_X7_emit k_ml_X7_125 ft_X7 hB a_h0 sh_7 (As := [.int 47, .int x59]) (e_X7_emit l D tys base G61 h0 g62 r63 a_h0 47 (q_47.wk (by decide)) x59 i_x59) ⟨rfl, rfl⟩ ⟨Nat.le_of_ble_eq_true rfl, Nat.le_of_ble_eq_true rfl⟩ ⟨Nat.le_of_ble_eq_true rfl, Nat.le_of_ble_eq_true rfl⟩ rfl rfl hl.1 (Nat.le_of_ble_eq_true rfl) dX7_readSum_67 (fun G9 H locs hq hB => ?_)
              obtain ⟨hm, hk⟩ := hq
              obtain ⟨G64, hG9⟩ : ∃ g, g = G9 := ⟨_, rfl⟩
              rw [← hG9] at hm hB hk
              have hM := hM.stp hm (by decide)
              obtain ⟨g65, r66, a_h0, f_g65⟩ := hm.ex a_h0
              have n_g65 := iv_nxt hB a_h0 f_g65 n_g62
              refine lv_goto (tgt := 108) hx hb dX7_readSum_70 (by decide) ?_
              refine iv_iinc hx hb i15_x7 (lo := 1) (hi := 400) (by decide) dX7_readSum_108 hl (k := 3) rfl (by decide) (fun x67 ls e_x67 i_x67 hl => ?_)
              have hl : lv_has ls 6 [(3, .int x67), (2, .int x60), (5, .int x59), (4, .int x23), (1, .int x5), (0, .ref h0)] := hl
              refine lv_goto (tgt := 9) hx hb dX7_readSum_111 (by decide) ?_
              exact ih_9 G64 hM _ _ hB g65 r66 a_h0 n_g65 x5 i_x5 x60 i_x60 x67 (i_x67.wk (by decide)) (iv_mup (c := 1) i_x7 (by decide) (by decide) (by omega) hn_9) ⟨fun h => ⟨i1 + 1 + 1, by have w1 : x67.toInt = x7.toInt + 1 := e_x67; have w2 := i15_x7.1; omega, ((vu.1 h).2.2.2.2).ke hk hm (by decide), by have w := hj2.1; omega, rp_ok CF2 (vu.1 h).1 (vu.1 h).2.1 (vu.1 h).2.2.1⟩, fun h => by rcases vu.2 h with w | w; exact ⟨i1 + 1, 1, rp_no ho.two CF2 w.1, w.2.ke hk⟩; exact ⟨i1 + 1, 2, rp_out CF2 w.1 w.2.1, w.2.2.ke hk⟩⟩ _ (lv_sub hl [0, 1, 4, 5] rfl)
  exact L_9 _ G2 hM _ _ hB g3 r4 a_h0 n_g3 0 (q_0.wk (by decide)) x1 i_x1 0 (q_0.wk (by decide)) (Nat.lt_succ_self _) ⟨fun h => ⟨i + 1, by have z0 : (0 : Int32).toInt = 0 := rfl; omega, (vu.1 h).2.2, Nat.le_refl _, ru_ok ho AT (vu.1 h).1⟩, fun h => ⟨i, 1, ru_no ho AT (vu.2 h).1, (vu.2 h).2⟩⟩ _ (lv_sub hl [0, 1, 2, 3] rfl)
