theorem iv_baldX {p : Program} {l : Launch} {e : Env} {R : Room} {s : State} {m : MethodId} {args : Array Value} {below : List Frame} {meth : Method} {c : Code} {H : Heap} {locs : List Loc} {cells slots : Nat} {Q : State → Prop} {cc : ByteArray} {nL pc : Nat} {ls : Array Slot} {rest : List Value} {D : va_G} {cl : List vw_C} {tys : List (ClassId × FieldType)} {base : Nat} {G : iv_G} {W0 : List Cond} {own : String} {sh : Nat → iv_Sh} {i : Nat} (X : iv_X p m c cc nL s args W0 own D cl tys base) (hi : i < 23) (hB : iv_B sh D cl tys base G s.heap H locs) {k : Int32} (hin : vp_in k (iv_len.getD i 0)) (hdg : decode cc pc = .ok (.baload, 1))
    (kk : ∀ x : Int32, x = (iv_byt.getD i []).getD k.toInt.toNat 0 → W p l e R s m args below meth c H locs cells slots Q (F0 m (pc + 1) ls (.int x :: rest))) : W p l e R s m args below meth c H locs cells slots Q (F0 m pc ls (.int k :: .ref (D.2 101 i) :: rest)) :=
  va_tb X.1.1 X.1.2.1 (X.2.2.2.1.1 i hi).2.2.2 hB.2.1 hin (v := .int ((iv_byt.getD i []).getD k.toNatClampNeg 0)) rfl hdg (kk _ rfl)
theorem tk_sgN : ∀ c : Fin 256, (∃ k : Fin 10, (iv_byt.getD 1 []).getD k.val 0 = c.val.toInt32.toInt8.toInt32) ↔ (c.val = 59 ∨ (40 ≤ c.val ∧ c.val ≤ 43) ∨ c.val = 45 ∨ c.val = 47 ∨ (60 ≤ c.val ∧ c.val ≤ 62)) := by decide +kernel
theorem tk_sgI {x : Int32} (h : iv_R 0 255 x) : (∃ k : Nat, k < 10 ∧ (iv_byt.getD 1 []).getD k 0 = x.toInt8.toInt32) ↔ tk_sg x.toInt := by
  have h1 := h.1
  have h2 := h.2
  have w := tk_sgN ⟨x.toInt.toNat, by omega⟩
  have w : (∃ k : Fin 10, (iv_byt.getD 1 []).getD k.val 0 = x.toInt.toNat.toInt32.toInt8.toInt32) ↔ (x.toInt.toNat = 59 ∨ (40 ≤ x.toInt.toNat ∧ x.toInt.toNat ≤ 43) ∨ x.toInt.toNat = 45 ∨ x.toInt.toNat = 47 ∨ (60 ≤ x.toInt.toNat ∧ x.toInt.toNat ≤ 62)) := w
  rw [iv_nIx h (by decide)] at w
  unfold tk_sg
  constructor
  · rintro ⟨k, q1, q2⟩
    have w1 := w.mp ⟨⟨k, q1⟩, q2⟩
    omega
  · intro q
    obtain ⟨k, hk⟩ := w.mpr (by omega)
    exact ⟨k.val, k.isLt, hk⟩
/-- where a place of the words' string lies: which word, how far in it -/
def tk_pos : Nat → Nat × Nat
  | 0 => (0, 0)
  | i + 1 => if (tk_pos i).2 < (tk_w (tk_pos i).1).length then ((tk_pos i).1, (tk_pos i).2 + 1) else ((tk_pos i).1 + 1, 0)
def tk_ch (i : Nat) : Int := (((iv_byt.getD 0 []).getD i 0) &&& 255).toInt
theorem tk_chN : ∀ i : Fin 108, (tk_pos i.val).1 < 21 ∧ (tk_pos i.val).2 ≤ (tk_w (tk_pos i.val).1).length ∧ ((tk_pos i.val).2 < (tk_w (tk_pos i.val).1).length → tk_ch i.val = (tk_w (tk_pos i.val).1).getD (tk_pos i.val).2 0 ∧ tk_ch i.val ≠ 32) ∧ ((tk_pos i.val).2 = (tk_w (tk_pos i.val).1).length → tk_ch i.val = 32) := by decide +kernel
theorem tk_pos_end : tk_pos 108 = (21, 0) := by decide +kernel
def tk_I (T : Nat → Int) (p e i : Nat) (W A : Int) (s : Prop) : Prop := W = 128 + ((tk_pos i).1 : Int) ∧ A = (p : Int) + ((tk_pos i).2 : Int) ∧ (s ↔ ∀ k, k < (tk_pos i).2 → p + k < e ∧ T (p + k) = (tk_w (tk_pos i).1).getD k 0) ∧ ∀ w, w < (tk_pos i).1 → ¬ tk_eq T p e (tk_w w)
theorem tk_I.zero {T : Nat → Int} {p e : Nat} {s : Prop} (hs : s) : tk_I T p e 0 128 (p : Int) s := ⟨rfl, (Int.add_zero _).symm, ⟨fun _ k hk => absurd hk (Nat.not_lt_zero _), fun _ => hs⟩, fun w hw => absurd hw (Nat.not_lt_zero _)⟩
theorem tk_I.spNo {T : Nat → Int} {p e i : Nat} {W A : Int} {s s' : Prop} (h : tk_I T p e i W A s) (hi : i < 108) (hc : tk_ch i = 32) (hn : ¬ s ∨ ¬ A = (e : Int)) (hs' : s') : tk_I T p e (i + 1) (W + 1) (p : Int) s' := by
  obtain ⟨h1, h2, h3, h4⟩ := h
  obtain ⟨f1, f2, f3, f4⟩ := tk_chN ⟨i, hi⟩
  have f2 : (tk_pos i).2 ≤ (tk_w (tk_pos i).1).length := f2
  have f3 : (tk_pos i).2 < (tk_w (tk_pos i).1).length → tk_ch i = (tk_w (tk_pos i).1).getD (tk_pos i).2 0 ∧ tk_ch i ≠ 32 := f3
  have hj : ¬ (tk_pos i).2 < (tk_w (tk_pos i).1).length := fun q => (f3 q).2 hc
  have e1 : tk_pos (i + 1) = ((tk_pos i).1 + 1, 0) := if_neg hj
  unfold tk_I
  rw [e1]
  refine ⟨by show W + 1 = 128 + (((tk_pos i).1 + 1 : Nat) : Int); omega, (Int.add_zero _).symm, ⟨fun _ k hk => absurd hk (Nat.not_lt_zero _), fun _ => hs'⟩, fun w hw => ?_⟩
  have hw : w < (tk_pos i).1 + 1 := hw
  by_cases q : w = (tk_pos i).1
  · subst q
    intro t
    have hlen : (tk_pos i).2 = (tk_w (tk_pos i).1).length := by omega
    rcases hn with n | n
    · exact n (h3.mpr (fun k hk => ⟨by have := t.1; omega, t.2 k (by omega)⟩))
    · exact n (by have := t.1; omega)
  · exact h4 w (by omega)
theorem tk_I.spYes {T : Nat → Int} {p e i : Nat} {W A : Int} {s : Prop} (h : tk_I T p e i W A s) (hi : i < 108) (hc : tk_ch i = 32) (hs : s) (hA : A = (e : Int)) : ∃ w : Nat, w < 21 ∧ tk_eq T p e (tk_w w) ∧ W = 128 + (w : Int) := by
  obtain ⟨h1, h2, h3, h4⟩ := h
  obtain ⟨f1, f2, f3, f4⟩ := tk_chN ⟨i, hi⟩
  have f1 : (tk_pos i).1 < 21 := f1
  have f2 : (tk_pos i).2 ≤ (tk_w (tk_pos i).1).length := f2
  have f3 : (tk_pos i).2 < (tk_w (tk_pos i).1).length → tk_ch i = (tk_w (tk_pos i).1).getD (tk_pos i).2 0 ∧ tk_ch i ≠ 32 := f3
  have hj : ¬ (tk_pos i).2 < (tk_w (tk_pos i).1).length := fun q => (f3 q).2 hc
  exact ⟨_, f1, ⟨by omega, fun k hk => ((h3.mp hs) k (by omega)).2⟩, h1⟩
theorem tk_I.let {T : Nat → Int} {p e i : Nat} {W A : Int} {s s' : Prop} (h : tk_I T p e i W A s) (hi : i < 108) (hc : ¬ tk_ch i = 32) (hs' : s' ↔ s ∧ A < (e : Int) ∧ T A.toNat = tk_ch i) : tk_I T p e (i + 1) W (A + 1) s' := by
  obtain ⟨h1, h2, h3, h4⟩ := h
  obtain ⟨f1, f2, f3, f4⟩ := tk_chN ⟨i, hi⟩
  have f2 : (tk_pos i).2 ≤ (tk_w (tk_pos i).1).length := f2
  have f3 : (tk_pos i).2 < (tk_w (tk_pos i).1).length → tk_ch i = (tk_w (tk_pos i).1).getD (tk_pos i).2 0 ∧ tk_ch i ≠ 32 := f3
  have f4 : (tk_pos i).2 = (tk_w (tk_pos i).1).length → tk_ch i = 32 := f4
  have hj : (tk_pos i).2 < (tk_w (tk_pos i).1).length := by
    have w : ¬ (tk_pos i).2 = (tk_w (tk_pos i).1).length := fun q => hc (f4 q)
    omega
  have e1 : tk_pos (i + 1) = ((tk_pos i).1, (tk_pos i).2 + 1) := if_pos hj
  have f5 := (f3 hj).1
  have eA : A.toNat = p + (tk_pos i).2 := by omega
  unfold tk_I
  rw [e1]
  refine ⟨h1, by show A + 1 = (p : Int) + (((tk_pos i).2 + 1 : Nat) : Int); omega, ?_, h4⟩
  rw [hs', h3, eA, f5]
  constructor
  · rintro ⟨q1, q2, q3⟩ k hk
    have hk : k < (tk_pos i).2 + 1 := hk
    by_cases q : k = (tk_pos i).2
    · subst q
      exact ⟨by omega, q3⟩
    · exact q1 k (by omega)
  · intro q
    have w := q (tk_pos i).2 (Nat.lt_succ_self _)
    exact ⟨fun k hk => q k (Nat.lt_succ_of_lt hk), by have := w.1; omega, w.2⟩
theorem tk_I.fin {T : Nat → Int} {p e : Nat} {W A : Int} {s : Prop} (h : tk_I T p e 108 W A s) : ∀ w, w < 21 → ¬ tk_eq T p e (tk_w w) := by
  have h4 := h.2.2.2
  rw [tk_pos_end] at h4
  exact h4
set_option maxHeartbeats 4000000 in
set_option maxRecDepth 100000 in
theorem e_J1_charAt_3b067 (l : Launch) (D : va_G) (tys : List (ClassId × FieldType)) (base : Nat) (G : iv_G) (s1 : Nat) (hs1 : s1 < 23) (x_1 : Int32) (i_x_1 : iv_R 0 254 x_1) (lb_1 : x_1.toInt < ((iv_len.getD s1 0 : Nat) : Int)) : Met l yJ1_charAt_3b067 (Cond.code yJ1_charAt_3b067 cJ1_charAt_3b067 2 (some .char) :: iv_W0) ({ frames := 2, cells := 0, slots := 0, locals := 43 }) (iv_Pc iv_sh D classes tys base G [.ref (D.2 101 s1), .int x_1]) (iv_Qi iv_sh D classes tys base (fun v G' => G = G' ∧ iv_R 0 255 v ∧ (v = (iv_byt.getD s1 []).getD x_1.toInt.toNat 0 &&& 255))) 0 0 (iv_A base) := by
  refine iv_head (by decide) (Nat.le_of_ble_eq_true rfl) ?_
  intro p e s m args below meth c ls X hr hlocks hname hB hl
  have X := X
  have hx := X.1.1
  have hb := X.1.2.1
  have hl : lv_has ls 2 [(0, .ref (D.2 101 s1)), (1, .int x_1)] := hl
  refine lv_iload_n hx hb dJ1_charAt_3b067_0 rfl (lv_at hl 1 rfl) ?_
  refine lv_aload_n hx hb dJ1_charAt_3b067_1 rfl (lv_at hl 0 rfl) ?_
  refine iv_blen X hs1 hB dJ1_charAt_3b067_2 (fun x1 e_x1 i_x1 => ?_)
  refine iv_cSv X k_good k_mf_J0_checkIndex_df160 k_st_J0_checkIndex_df160 k_ml_J1_9 hB (As := [.int x_1, .int x1]) (c_J0_checkIndex_df160 l D tys base G x_1 i_x_1 x1 i_x1 (by have w1 := lb_1; have w2 := e_x1; omega)) ⟨rfl, rfl⟩ ⟨Nat.le_of_ble_eq_true rfl, Nat.le_of_ble_eq_true rfl⟩ ⟨Nat.le_of_ble_eq_true rfl, Nat.le_of_ble_eq_true rfl⟩ rfl rfl hl.1 (Nat.le_of_ble_eq_true rfl) dJ1_charAt_3b067_3 (fun G9 H locs hq hB => ?_)
  subst hq
  refine lv_aload_n hx hb dJ1_charAt_3b067_6 rfl (lv_at hl 0 rfl) ?_
  refine lv_iload_n hx hb dJ1_charAt_3b067_7 rfl (lv_at hl 1 rfl) ?_
  refine iv_baldX X hs1 hB (iv_inU i_x_1 (by decide) lb_1) dJ1_charAt_3b067_8 (fun x2 e_x2 => ?_)
  have i_x2 := iv_R.all x2
  refine lv_sipush (v := 255) hx hb dJ1_charAt_3b067_9 (by decide) ?_
  refine iv_iand_r hx hb q_255 (by decide) dJ1_charAt_3b067_12 (fun x3 e_x3 i_x3 => ?_)
  refine iv_i2c hx hb i_x3 (by decide) dJ1_charAt_3b067_13 ?_
  exact iv_nret X hr (iv_narC (i_x3.wk (by decide))) hlocks hB ⟨rfl, i_x3, by rw [e_x3, e_x2]⟩ dJ1_charAt_3b067_14
set_option maxHeartbeats 4000000 in
set_option maxRecDepth 100000 in
theorem e_J0_charAt_5068e (l : Launch) (D : va_G) (tys : List (ClassId × FieldType)) (base : Nat) (G : iv_G) (sh0 : Nat) (hs0 : sh0 < 23) (x_0 : Int32) (i_x_0 : iv_R 0 254 x_0) (lb_0 : x_0.toInt < ((iv_len.getD sh0 0 : Nat) : Int)) : Met l yJ0_charAt_5068e (Cond.code yJ0_charAt_5068e cJ0_charAt_5068e 2 (some .char) :: iv_W0) ({ frames := 3, cells := 0, slots := 0, locals := 64 }) (iv_Pc iv_sh D classes tys base G [.ref (D.2 100 sh0), .int x_0]) (iv_Qi iv_sh D classes tys base (fun v G' => G = G' ∧ iv_R 0 255 v ∧ (v = (iv_byt.getD sh0 []).getD x_0.toInt.toNat 0 &&& 255))) 0 0 (iv_A base) := by
  refine iv_head (by decide) (Nat.le_of_ble_eq_true rfl) ?_
  intro p e s m args below meth c ls X hr hlocks hname hB hl
  have X := X
  have hx := X.1.1
  have hb := X.1.2.1
  have hl : lv_has ls 2 [(0, .ref (D.2 100 sh0)), (1, .int x_0)] := hl
  refine lv_aload_n hx hb dJ0_charAt_5068e_0 rfl (lv_at hl 0 rfl) ?_
  refine iv_cKi X k_good k_mf_J0_isLatin1_aae02 k_im_J0_isLatin1_aae02 k_sel_J0_isLatin1_aae02 k_ml_J0_492 hs0 rfl hB (As := []) (c_J0_isLatin1_aae02 l D tys base G sh0 hs0) ⟨rfl, rfl⟩ ⟨Nat.le_of_ble_eq_true rfl, Nat.le_of_ble_eq_true rfl⟩ ⟨Nat.le_of_ble_eq_true rfl, Nat.le_of_ble_eq_true rfl⟩ rfl rfl hl.1 (Nat.le_of_ble_eq_true rfl) dJ0_charAt_5068e_1 (fun x1 G9 H locs hq hB => ?_)
  obtain ⟨rfl, i_x1⟩ := hq
  refine lv_if_eq (tgt := 16) hx hb dJ0_charAt_5068e_4 (by decide) (fun c2 => ?_) (fun c2 => ?_)
  · skip
    exact (i_x1.cutHi (n := 0) (iv_eq_r c2 q_0).2).no (by decide)
  · skip
    refine lv_aload_n hx hb dJ0_charAt_5068e_7 rfl (lv_at hl 0 rfl) ?_
    refine iv_sval X hs0 hB k_sfl_J0_9 dJ0_charAt_5068e_8 ?_
    refine lv_iload_n hx hb dJ0_charAt_5068e_11 rfl (lv_at hl 1 rfl) ?_
    refine iv_cSi X k_good k_mf_J1_charAt_3b067 k_st_J1_charAt_3b067 k_ml_J0_495 hB (As := [.ref (D.2 101 sh0), .int x_0]) (e_J1_charAt_3b067 l D tys base G sh0 hs0 x_0 i_x_0 lb_0) ⟨rfl, rfl⟩ ⟨Nat.le_of_ble_eq_true rfl, Nat.le_of_ble_eq_true rfl⟩ ⟨Nat.le_of_ble_eq_true rfl, Nat.le_of_ble_eq_true rfl⟩ rfl rfl hl.1 (Nat.le_of_ble_eq_true rfl) dJ0_charAt_5068e_12 (fun x3 G9 H locs hq hB => ?_)
    obtain ⟨rfl, i_x3, ex3⟩ := hq
    exact iv_nret X hr (iv_narC (i_x3.wk (by decide))) hlocks hB ⟨rfl, i_x3, ex3⟩ dJ0_charAt_5068e_15
set_option maxHeartbeats 4000000 in
set_option maxRecDepth 100000 in
theorem e_J1_indexOfChar_4cfef (l : Launch) (D : va_G) (tys : List (ClassId × FieldType)) (base : Nat) (G : iv_G) (s1 : Nat) (hs1 : s1 < 23) (x_1 : Int32) (i_x_1 : iv_R 0 255 x_1) (x_2 : Int32) (i_x_2 : iv_R 0 0 x_2) (x_3 : Int32) (i_x_3 : iv_R 1 255 x_3) (u_x_3 : x_3.toInt ≤ ((iv_len.getD s1 0 : Nat) : Int)) : Met l yJ1_indexOfChar_4cfef (Cond.code yJ1_indexOfChar_4cfef cJ1_indexOfChar_4cfef 6 (some .int) :: iv_W0) ({ frames := 0, cells := 0, slots := 0, locals := 0 }) (iv_Pc iv_sh D classes tys base G [.ref (D.2 101 s1), .int x_1, .int x_2, .int x_3]) (iv_Qi iv_sh D classes tys base (fun v G' => G = G' ∧ iv_R (-1) 254 v ∧ ((v.toInt < 0 ∧ ∀ k : Nat, k < x_3.toInt.toNat → ¬ (iv_byt.getD s1 []).getD k 0 = x_1.toInt8.toInt32) ∨ (0 ≤ v.toInt ∧ ∃ k : Nat, k < x_3.toInt.toNat ∧ (iv_byt.getD s1 []).getD k 0 = x_1.toInt8.toInt32)))) 0 0 (iv_A base) := by
  refine iv_head (by decide) (Nat.le_of_ble_eq_true rfl) ?_
  intro p e s m args below meth c ls X hr hlocks hname hB hl
  have X := X
  have hx := X.1.1
  have hb := X.1.2.1
  have hl : lv_has ls 6 [(0, .ref (D.2 101 s1)), (1, .int x_1), (2, .int x_2), (3, .int x_3)] := hl
  refine lv_iload_n hx hb dJ1_indexOfChar_4cfef_0 rfl (lv_at hl 1 rfl) ?_
  refine lv_i2b hx hb dJ1_indexOfChar_4cfef_1 rfl ?_
  refine lv_topi (fun x1 e_x1 => ?_)
  have i_x1 := iv_R.all x1
  refine lv_istore (lv' := [(4, .int x1), (0, .ref (D.2 101 s1)), (1, .int x_1), (2, .int x_2), (3, .int x_3)]) hx hb dJ1_indexOfChar_4cfef_2 hl (by decide) rfl (fun ls hl => ?_)
  refine lv_iload_n hx hb dJ1_indexOfChar_4cfef_4 rfl (lv_at hl 3 rfl) ?_
  refine lv_istore (lv' := [(5, .int x_2), (4, .int x1), (0, .ref (D.2 101 s1)), (1, .int x_1), (2, .int x_2), (3, .int x_3)]) hx hb dJ1_indexOfChar_4cfef_5 hl (by decide) rfl (fun ls hl => ?_)
  have L_7 : ∀ (n_7 : Nat) (H : Heap) (locs : List Loc) (hB : iv_B iv_sh D classes tys base G s.heap H locs) (x2 : Int32) (i_x2 : iv_R 0 255 x2) (hn_7 : (256 - x2.toInt).toNat < n_7) (gi_7 : x2.toInt ≤ x_3.toInt ∧ ∀ k : Nat, k < x2.toInt.toNat → ¬ (iv_byt.getD s1 []).getD k 0 = x_1.toInt8.toInt32) (ls : Array Slot) (hl : lv_has ls 6 [(5, .int x2), (4, .int x1), (0, .ref (D.2 101 s1)), (3, .int x_3)]), W p l e ({ frames := 0, cells := 0, slots := 0, locals := 0 } : Room) s m args below meth c H locs 0 0 (MQ below (iv_Qi iv_sh D classes tys base (fun v G' => G = G' ∧ iv_R (-1) 254 v ∧ ((v.toInt < 0 ∧ ∀ k : Nat, k < x_3.toInt.toNat → ¬ (iv_byt.getD s1 []).getD k 0 = x_1.toInt8.toInt32) ∨ (0 ≤ v.toInt ∧ ∃ k : Nat, k < x_3.toInt.toNat ∧ (iv_byt.getD s1 []).getD k 0 = x_1.toInt8.toInt32)))) args s 0 0 (iv_A base)) (F0 m 7 ls []) := by
    intro n_7
    induction n_7 with
    | zero => intro H locs hB x2 i_x2 hn_7 gi_7 ls hl; exact absurd hn_7 (Nat.not_lt_zero _)
    | succ n_7 ih_7 =>
      intro H locs hB x2 i_x2 hn_7 gi_7 ls hl
      refine lv_iload hx hb dJ1_indexOfChar_4cfef_7 (lv_at hl 0 rfl) ?_
      refine lv_iload_n hx hb dJ1_indexOfChar_4cfef_9 rfl (lv_at hl 3 rfl) ?_
      refine lv_icmp_ge (tgt := 31) hx hb dJ1_indexOfChar_4cfef_10 (by decide) (fun c3 => ?_) (fun c3 => ?_)
      · skip
        have i3_x2 : iv_R 1 255 x2 := (i_x2.cutLo (n := 1) (iv_le_l c3 i_x_3))
        refine lv_iconst (v := (-1)) hx hb dJ1_indexOfChar_4cfef_31 (by decide) ?_
        exact iv_iret X hr hlocks hB ⟨rfl, (q_n1.wk (by decide)), (Or.inl ⟨by decide, fun k hk => gi_7.2 k (by have w1 := Int32.le_iff_toInt_le.mp c3; omega)⟩)⟩ dJ1_indexOfChar_4cfef_32
      · skip
        have i4_x2 : iv_R 0 254 x2 := (i_x2.cutHi (n := 254) (iv_lt_r (iv_nle c3) i_x_3 (by decide)))
        refine lv_aload_n hx hb dJ1_indexOfChar_4cfef_13 rfl (lv_at hl 2 rfl) ?_
        refine lv_iload hx hb dJ1_indexOfChar_4cfef_14 (lv_at hl 0 rfl) ?_
        refine iv_baldX X hs1 hB (iv_inU i4_x2 (by decide) (iv_ltU (iv_nle c3) u_x_3)) dJ1_indexOfChar_4cfef_16 (fun x6 e_x6 => ?_)
        have i_x6 := iv_R.all x6
        refine lv_iload hx hb dJ1_indexOfChar_4cfef_17 (lv_at hl 1 rfl) ?_
        refine lv_icmp_ne (tgt := 25) hx hb dJ1_indexOfChar_4cfef_19 (by decide) (fun c7 => ?_) (fun c7 => ?_)
        · skip
          refine iv_iinc hx hb i4_x2 (lo := 1) (hi := 255) (by decide) dJ1_indexOfChar_4cfef_25 hl (k := 0) rfl (by decide) (fun x8 ls e_x8 i_x8 hl => ?_)
          have hl : lv_has ls 6 [(5, .int x8), (4, .int x1), (0, .ref (D.2 101 s1)), (3, .int x_3)] := hl
          refine lv_goto (tgt := 7) hx hb dJ1_indexOfChar_4cfef_28 (by decide) ?_
          exact ih_7 _ _ hB x8 (i_x8.wk (by decide)) (iv_mup (c := 1) i_x2 (by decide) (by decide) (by omega) hn_7) ⟨by have w1 : x8.toInt = x2.toInt + 1 := e_x8; have w2 := mt Int32.le_iff_toInt_le.mpr c3; omega, fun k hk => by rcases Nat.lt_or_ge k x2.toInt.toNat with h | h; exact gi_7.2 k h; rw [show k = x2.toInt.toNat from by (have w1 : x8.toInt = x2.toInt + 1 := e_x8; have w2 := i4_x2.1; omega), ← e_x6, ← e_x1]; exact c7⟩ _ (lv_sub hl [0, 1, 2, 3] rfl)
        · skip
          refine lv_iload hx hb dJ1_indexOfChar_4cfef_22 (lv_at hl 0 rfl) ?_
          exact iv_iret X hr hlocks hB ⟨rfl, (i4_x2.wk (by decide)), (Or.inr ⟨i4_x2.1, x2.toInt.toNat, by have w1 := mt Int32.le_iff_toInt_le.mpr c3; have w2 := i4_x2.1; omega, by rw [← e_x6, ← e_x1]; exact c7⟩)⟩ dJ1_indexOfChar_4cfef_24
  exact L_7 _ _ _ hB x_2 (i_x_2.wk (by decide)) (Nat.lt_succ_self _) ⟨by have w1 := i_x_2.2; have w2 := i_x_3.1; omega, fun k hk => absurd hk (by have w1 := i_x_2.2; omega)⟩ _ (lv_sub hl [0, 1, 2, 5] rfl)
set_option maxHeartbeats 4000000 in
set_option maxRecDepth 100000 in
theorem e_J1_canEncode_9a6ad (l : Launch) (D : va_G) (tys : List (ClassId × FieldType)) (base : Nat) (G : iv_G) (x_0 : Int32) (i_x_0 : iv_R (-2147483648) 2147483647 x_0) : Met l yJ1_canEncode_9a6ad (Cond.code yJ1_canEncode_9a6ad cJ1_canEncode_9a6ad 1 (some .boolean) :: iv_W0) ({ frames := 0, cells := 0, slots := 0, locals := 0 }) (iv_Pc iv_sh D classes tys base G [.int x_0]) (iv_Qi iv_sh D classes tys base (fun v G' => G = G' ∧ iv_R 0 1 v ∧ (¬ v = 0 → iv_R 0 255 x_0) ∧ (¬ v = 0 ↔ (0 ≤ x_0.toInt ∧ x_0.toInt ≤ 255)))) 0 0 (iv_A base) := by
  refine iv_head (by decide) (Nat.le_of_ble_eq_true rfl) ?_
  intro p e s m args below meth c ls X hr hlocks hname hB hl
  have X := X
  have hx := X.1.1
  have hb := X.1.2.1
  have hl : lv_has ls 1 [(0, .int x_0)] := hl
  refine lv_iload_n hx hb dJ1_canEncode_9a6ad_0 rfl (lv_at hl 0 rfl) ?_
  refine lv_if_lt (tgt := 15) hx hb dJ1_canEncode_9a6ad_1 (by decide) (fun c1 => ?_) (fun c1 => ?_)
  · skip
    have i1_x_0 : iv_R (-2147483648) (-1) x_0 := (i_x_0.cutHi (n := (-1)) (iv_lt_r c1 q_0 (by decide)))
    refine lv_iconst (v := 0) hx hb dJ1_canEncode_9a6ad_15 (by decide) ?_
    exact iv_zret X hr hlocks hB (q_0.wk (by decide)) ⟨rfl, (q_0.wk (by decide)), fun h => absurd (iv_z q_0) h, (⟨fun h => absurd rfl h, fun h => by have w1 := Int32.lt_iff_toInt_lt.mp c1; have w2 := i1_x_0.1; have w3 := i1_x_0.2; have e0 : (0 : Int32).toInt = 0 := rfl; have e1 : (1 : Int32).toInt = 1 := rfl; omega⟩)⟩ dJ1_canEncode_9a6ad_16
  · skip
    have i2_x_0 : iv_R 0 2147483647 x_0 := (i_x_0.cutLo (n := 0) (iv_le_l (iv_nlt c1) q_0))
    refine lv_iload_n hx hb dJ1_canEncode_9a6ad_4 rfl (lv_at hl 0 rfl) ?_
    refine lv_sipush (v := 255) hx hb dJ1_canEncode_9a6ad_5 (by decide) ?_
    refine lv_icmp_gt (tgt := 15) hx hb dJ1_canEncode_9a6ad_8 (by decide) (fun c4 => ?_) (fun c4 => ?_)
    · skip
      have i4_x_0 : iv_R 256 2147483647 x_0 := (i2_x_0.cutLo (n := 256) (iv_lt_l c4 q_255 (by decide)))
      refine lv_iconst (v := 0) hx hb dJ1_canEncode_9a6ad_15 (by decide) ?_
      exact iv_zret X hr hlocks hB (q_0.wk (by decide)) ⟨rfl, (q_0.wk (by decide)), fun h => absurd (iv_z q_0) h, (⟨fun h => absurd rfl h, fun h => by have w1 := mt Int32.lt_iff_toInt_lt.mpr c1; have w2 := Int32.lt_iff_toInt_lt.mp c4; have w3 := i4_x_0.1; have w4 := i4_x_0.2; have e0 : (0 : Int32).toInt = 0 := rfl; have e1 : (1 : Int32).toInt = 1 := rfl; have e255 : (255 : Int32).toInt = 255 := rfl; omega⟩)⟩ dJ1_canEncode_9a6ad_16
    · skip
      have i5_x_0 : iv_R 0 255 x_0 := (i2_x_0.cutHi (n := 255) (iv_le_r (iv_nlt c4) q_255))
      refine lv_iconst (v := 1) hx hb dJ1_canEncode_9a6ad_11 (by decide) ?_
      refine lv_goto (tgt := 16) hx hb dJ1_canEncode_9a6ad_12 (by decide) ?_
      exact iv_zret X hr hlocks hB (q_1.wk (by decide)) ⟨rfl, (q_1.wk (by decide)), fun _ => i5_x_0, (⟨fun _ => by have w1 := mt Int32.lt_iff_toInt_lt.mpr c1; have w2 := mt Int32.lt_iff_toInt_lt.mpr c4; have w3 := i5_x_0.1; have w4 := i5_x_0.2; have e0 : (0 : Int32).toInt = 0 := rfl; have e1 : (1 : Int32).toInt = 1 := rfl; have e255 : (255 : Int32).toInt = 255 := rfl; omega, fun _ => by decide⟩)⟩ dJ1_canEncode_9a6ad_16
set_option maxHeartbeats 4000000 in
set_option maxRecDepth 100000 in
theorem e_J1_indexOf_4cfef (l : Launch) (D : va_G) (tys : List (ClassId × FieldType)) (base : Nat) (G : iv_G) (s1 : Nat) (hs1 : s1 < 23) (x_1 : Int32) (i_x_1 : iv_R (-2147483648) 2147483647 x_1) (x_2 : Int32) (i_x_2 : iv_R 0 0 x_2) (x_3 : Int32) (i_x_3 : iv_R 0 255 x_3) (hx9 : iv_R 0 255 x_1) (hl9 : x_3.toInt = ((iv_len.getD s1 0 : Nat) : Int)) : Met l yJ1_indexOf_4cfef (Cond.code yJ1_indexOf_4cfef cJ1_indexOf_4cfef 4 (some .int) :: iv_W0) ({ frames := 1, cells := 0, slots := 0, locals := 25 }) (iv_Pc iv_sh D classes tys base G [.ref (D.2 101 s1), .int x_1, .int x_2, .int x_3]) (iv_Qi iv_sh D classes tys base (fun v G' => G = G' ∧ iv_R (-1) 254 v ∧ ((v.toInt < 0 ∧ ∀ k : Nat, k < iv_len.getD s1 0 → ¬ (iv_byt.getD s1 []).getD k 0 = x_1.toInt8.toInt32) ∨ (0 ≤ v.toInt ∧ ∃ k : Nat, k < iv_len.getD s1 0 ∧ (iv_byt.getD s1 []).getD k 0 = x_1.toInt8.toInt32)))) 0 0 (iv_A base) := by
  refine iv_head (by decide) (Nat.le_of_ble_eq_true rfl) ?_
  intro p e s m args below meth c ls X hr hlocks hname hB hl
  have X := X
  have hx := X.1.1
  have hb := X.1.2.1
  have hl : lv_has ls 4 [(0, .ref (D.2 101 s1)), (1, .int x_1), (2, .int x_2), (3, .int x_3)] := hl
  refine lv_iload_n hx hb dJ1_indexOf_4cfef_0 rfl (lv_at hl 1 rfl) ?_
  refine iv_cSi X k_good k_mf_J1_canEncode_9a6ad k_st_J1_canEncode_9a6ad k_ml_J1_88 hB (As := [.int x_1]) (e_J1_canEncode_9a6ad l D tys base G x_1 i_x_1) ⟨rfl, rfl⟩ ⟨Nat.le_of_ble_eq_true rfl, Nat.le_of_ble_eq_true rfl⟩ ⟨Nat.le_of_ble_eq_true rfl, Nat.le_of_ble_eq_true rfl⟩ rfl rfl hl.1 (Nat.le_of_ble_eq_true rfl) dJ1_indexOf_4cfef_1 (fun x1 G9 H locs hq hB => ?_)
  obtain ⟨rfl, i_x1, hp2, ex1⟩ := hq
  refine lv_if_ne (tgt := 9) hx hb dJ1_indexOf_4cfef_4 (by decide) (fun c3 => ?_) (fun c3 => ?_)
  · skip
    have i3_x1 : iv_R 1 1 x1 := iv_ne_lo c3 i_x1 q_0 (by decide)
    have i4_x_1 : iv_R 0 255 x_1 := ((i_x_1.cutLo (n := 0) (hp2 c3).1).cutHi (n := 255) (hp2 c3).2)
    refine lv_iload_n hx hb dJ1_indexOf_4cfef_9 rfl (lv_at hl 2 rfl) ?_
    refine lv_iconst (v := 0) hx hb dJ1_indexOf_4cfef_10 (by decide) ?_
    refine iv_mmax X hl.1 k_mm_J1_92 ⟨Nat.le_of_ble_eq_true rfl, Nat.le_of_ble_eq_true rfl⟩ ⟨Nat.le_of_ble_eq_true rfl, Nat.le_of_ble_eq_true rfl⟩ i_x_2 q_0 (lo := 0) (hi := 0) (by decide) dJ1_indexOf_4cfef_11 (fun x6 e_x6 i_x6 => ?_)
    refine lv_istore_n (lv' := [(2, .int x6), (0, .ref (D.2 101 s1)), (1, .int x_1), (3, .int x_3)]) hx hb dJ1_indexOf_4cfef_14 rfl hl (by decide) rfl (fun ls hl => ?_)
    refine lv_iload_n hx hb dJ1_indexOf_4cfef_15 rfl (lv_at hl 3 rfl) ?_
    refine lv_aload_n hx hb dJ1_indexOf_4cfef_16 rfl (lv_at hl 1 rfl) ?_
    refine iv_blen X hs1 hB dJ1_indexOf_4cfef_17 (fun x7 e_x7 i_x7 => ?_)
    refine iv_mmin X hl.1 k_mm_J1_38 ⟨Nat.le_of_ble_eq_true rfl, Nat.le_of_ble_eq_true rfl⟩ ⟨Nat.le_of_ble_eq_true rfl, Nat.le_of_ble_eq_true rfl⟩ i_x_3 i_x7 (lo := 0) (hi := 255) (by decide) dJ1_indexOf_4cfef_18 (fun x8 e_x8 i_x8 => ?_)
    have h8 : x8.toInt = ((iv_len.getD s1 0 : Nat) : Int) := by
      rw [e_x8]
      split
      · first | exact e_x7 | exact hl9
      · first | exact hl9 | exact e_x7
    refine lv_istore_n (lv' := [(3, .int x8), (2, .int x6), (0, .ref (D.2 101 s1)), (1, .int x_1)]) hx hb dJ1_indexOf_4cfef_21 rfl hl (by decide) rfl (fun ls hl => ?_)
    refine lv_iload_n hx hb dJ1_indexOf_4cfef_22 rfl (lv_at hl 1 rfl) ?_
    refine lv_iload_n hx hb dJ1_indexOf_4cfef_23 rfl (lv_at hl 0 rfl) ?_
    refine lv_icmp_lt (tgt := 29) hx hb dJ1_indexOf_4cfef_24 (by decide) (fun c9 => ?_) (fun c9 => ?_)
    · skip
      have i9_x8 : iv_R 1 255 x8 := (i_x8.cutLo (n := 1) (iv_lt_l c9 i_x6 (by decide)))
      refine lv_aload_n hx hb dJ1_indexOf_4cfef_29 rfl (lv_at hl 2 rfl) ?_
      refine lv_iload_n hx hb dJ1_indexOf_4cfef_30 rfl (lv_at hl 3 rfl) ?_
      refine lv_iload_n hx hb dJ1_indexOf_4cfef_31 rfl (lv_at hl 1 rfl) ?_
      refine lv_iload_n hx hb dJ1_indexOf_4cfef_32 rfl (lv_at hl 0 rfl) ?_
      refine iv_cSi X k_good k_mf_J1_indexOfChar_4cfef k_st_J1_indexOfChar_4cfef k_ml_J1_95 hB (As := [.ref (D.2 101 s1), .int x_1, .int x6, .int x8]) (e_J1_indexOfChar_4cfef l D tys base G s1 hs1 x_1 i4_x_1 x6 i_x6 x8 i9_x8 (iv_minU e_x8 (Int.le_of_eq e_x7))) ⟨rfl, rfl⟩ ⟨Nat.le_of_ble_eq_true rfl, Nat.le_of_ble_eq_true rfl⟩ ⟨Nat.le_of_ble_eq_true rfl, Nat.le_of_ble_eq_true rfl⟩ rfl rfl hl.1 (Nat.le_of_ble_eq_true rfl) dJ1_indexOf_4cfef_33 (fun x11 G9 H locs hq hB => ?_)
      obtain ⟨rfl, i_x11, ex11⟩ := hq
      exact iv_iret X hr hlocks hB ⟨rfl, i_x11, (by rw [show x8.toInt.toNat = iv_len.getD s1 0 from by omega] at ex11; exact ex11)⟩ dJ1_indexOf_4cfef_36
    · skip
      have i11_x8 : iv_R 0 0 x8 := (i_x8.cutHi (n := 0) (iv_le_r (iv_nlt c9) i_x6))
      refine lv_iconst (v := (-1)) hx hb dJ1_indexOf_4cfef_27 (by decide) ?_
      exact iv_iret X hr hlocks hB ⟨rfl, (q_n1.wk (by decide)), (Or.inl ⟨by decide, fun k hk => absurd hk (by have w1 := i11_x8.2; omega)⟩)⟩ dJ1_indexOf_4cfef_28
  · skip
    have i12_x1 : iv_R 0 0 x1 := (i_x1.cutHi (n := 0) (iv_eq_r c3 q_0).2)
    refine lv_iconst (v := (-1)) hx hb dJ1_indexOf_4cfef_7 (by decide) ?_
    exact iv_iret X hr hlocks hB ⟨rfl, (q_n1.wk (by decide)), (absurd c3 (ex1.mpr hx9))⟩ dJ1_indexOf_4cfef_8
set_option maxHeartbeats 4000000 in
set_option maxRecDepth 100000 in
theorem e_J0_indexOf_7cf53 (l : Launch) (D : va_G) (tys : List (ClassId × FieldType)) (base : Nat) (G : iv_G) (sh0 : Nat) (hs0 : sh0 < 23) (x_0 : Int32) (i_x_0 : iv_R (-2147483648) 2147483647 x_0) (x_1 : Int32) (i_x_1 : iv_R 0 0 x_1) (hx9 : iv_R 0 255 x_0) : Met l yJ0_indexOf_7cf53 (Cond.code yJ0_indexOf_7cf53 cJ0_indexOf_7cf53 3 (some .int) :: iv_W0) ({ frames := 2, cells := 0, slots := 0, locals := 48 }) (iv_Pc iv_sh D classes tys base G [.ref (D.2 100 sh0), .int x_0, .int x_1]) (iv_Qi iv_sh D classes tys base (fun v G' => G = G' ∧ iv_R (-1) 254 v ∧ ((v.toInt < 0 ∧ ∀ k : Nat, k < iv_len.getD sh0 0 → ¬ (iv_byt.getD sh0 []).getD k 0 = x_0.toInt8.toInt32) ∨ (0 ≤ v.toInt ∧ ∃ k : Nat, k < iv_len.getD sh0 0 ∧ (iv_byt.getD sh0 []).getD k 0 = x_0.toInt8.toInt32)))) 0 0 (iv_A base) := by
  refine iv_head (by decide) (Nat.le_of_ble_eq_true rfl) ?_
  intro p e s m args below meth c ls X hr hlocks hname hB hl
  have X := X
  have hx := X.1.1
  have hb := X.1.2.1
  have hl : lv_has ls 3 [(0, .ref (D.2 100 sh0)), (1, .int x_0), (2, .int x_1)] := hl
  refine lv_aload_n hx hb dJ0_indexOf_7cf53_0 rfl (lv_at hl 0 rfl) ?_
  refine iv_cKi X k_good k_mf_J0_isLatin1_aae02 k_im_J0_isLatin1_aae02 k_sel_J0_isLatin1_aae02 k_ml_J0_492 hs0 rfl hB (As := []) (c_J0_isLatin1_aae02 l D tys base G sh0 hs0) ⟨rfl, rfl⟩ ⟨Nat.le_of_ble_eq_true rfl, Nat.le_of_ble_eq_true rfl⟩ ⟨Nat.le_of_ble_eq_true rfl, Nat.le_of_ble_eq_true rfl⟩ rfl rfl hl.1 (Nat.le_of_ble_eq_true rfl) dJ0_indexOf_7cf53_1 (fun x1 G9 H locs hq hB => ?_)
  obtain ⟨rfl, i_x1⟩ := hq
  refine lv_if_eq (tgt := 23) hx hb dJ0_indexOf_7cf53_4 (by decide) (fun c2 => ?_) (fun c2 => ?_)
  · skip
    exact (i_x1.cutHi (n := 0) (iv_eq_r c2 q_0).2).no (by decide)
  · skip
    refine lv_aload_n hx hb dJ0_indexOf_7cf53_7 rfl (lv_at hl 0 rfl) ?_
    refine iv_sval X hs0 hB k_sfl_J0_9 dJ0_indexOf_7cf53_8 ?_
    refine lv_iload_n hx hb dJ0_indexOf_7cf53_11 rfl (lv_at hl 1 rfl) ?_
    refine lv_iload_n hx hb dJ0_indexOf_7cf53_12 rfl (lv_at hl 2 rfl) ?_
    refine lv_aload_n hx hb dJ0_indexOf_7cf53_13 rfl (lv_at hl 0 rfl) ?_
    refine iv_cKi X k_good k_mf_J0_length_8abf5 k_im_J0_length_8abf5 k_sel_J0_length_8abf5 k_ml_J0_505 hs0 rfl hB (As := []) (c_J0_length_8abf5 l D tys base G sh0 hs0) ⟨rfl, rfl⟩ ⟨Nat.le_of_ble_eq_true rfl, Nat.le_of_ble_eq_true rfl⟩ ⟨Nat.le_of_ble_eq_true rfl, Nat.le_of_ble_eq_true rfl⟩ rfl rfl hl.1 (Nat.le_of_ble_eq_true rfl) dJ0_indexOf_7cf53_14 (fun x3 G9 H locs hq hB => ?_)
    obtain ⟨rfl, i_x3, e_x3⟩ := hq
    refine iv_cSi X k_good k_mf_J1_indexOf_4cfef k_st_J1_indexOf_4cfef k_ml_J0_637 hB (As := [.ref (D.2 101 sh0), .int x_0, .int x_1, .int x3]) (e_J1_indexOf_4cfef l D tys base G sh0 hs0 x_0 i_x_0 x_1 i_x_1 x3 i_x3 hx9 e_x3) ⟨rfl, rfl⟩ ⟨Nat.le_of_ble_eq_true rfl, Nat.le_of_ble_eq_true rfl⟩ ⟨Nat.le_of_ble_eq_true rfl, Nat.le_of_ble_eq_true rfl⟩ rfl rfl hl.1 (Nat.le_of_ble_eq_true rfl) dJ0_indexOf_7cf53_17 (fun x4 G9 H locs hq hB => ?_)
    obtain ⟨rfl, i_x4, ex4⟩ := hq
    refine lv_goto (tgt := 36) hx hb dJ0_indexOf_7cf53_20 (by decide) ?_
    exact iv_iret X hr hlocks hB ⟨rfl, i_x4, ex4⟩ dJ0_indexOf_7cf53_36
set_option maxHeartbeats 4000000 in
set_option maxRecDepth 100000 in
theorem e_J0_indexOf_0f7a4 (l : Launch) (D : va_G) (tys : List (ClassId × FieldType)) (base : Nat) (G : iv_G) (sh0 : Nat) (hs0 : sh0 < 23) (x_0 : Int32) (i_x_0 : iv_R (-2147483648) 2147483647 x_0) (hx9 : iv_R 0 255 x_0) : Met l yJ0_indexOf_0f7a4 (Cond.code yJ0_indexOf_0f7a4 cJ0_indexOf_0f7a4 2 (some .int) :: iv_W0) ({ frames := 3, cells := 0, slots := 0, locals := 70 }) (iv_Pc iv_sh D classes tys base G [.ref (D.2 100 sh0), .int x_0]) (iv_Qi iv_sh D classes tys base (fun v G' => G = G' ∧ iv_R (-1) 254 v ∧ ((v.toInt < 0 ∧ ∀ k : Nat, k < iv_len.getD sh0 0 → ¬ (iv_byt.getD sh0 []).getD k 0 = x_0.toInt8.toInt32) ∨ (0 ≤ v.toInt ∧ ∃ k : Nat, k < iv_len.getD sh0 0 ∧ (iv_byt.getD sh0 []).getD k 0 = x_0.toInt8.toInt32)))) 0 0 (iv_A base) := by
  refine iv_head (by decide) (Nat.le_of_ble_eq_true rfl) ?_
  intro p e s m args below meth c ls X hr hlocks hname hB hl
  have X := X
  have hx := X.1.1
  have hb := X.1.2.1
  have hl : lv_has ls 2 [(0, .ref (D.2 100 sh0)), (1, .int x_0)] := hl
  refine lv_aload_n hx hb dJ0_indexOf_0f7a4_0 rfl (lv_at hl 0 rfl) ?_
  refine lv_iload_n hx hb dJ0_indexOf_0f7a4_1 rfl (lv_at hl 1 rfl) ?_
  refine lv_iconst (v := 0) hx hb dJ0_indexOf_0f7a4_2 (by decide) ?_
  refine iv_cKi X k_good k_mf_J0_indexOf_7cf53 k_im_J0_indexOf_7cf53 k_sel_J0_indexOf_7cf53 k_ml_J0_633 hs0 rfl hB (As := [.int x_0, .int 0]) (e_J0_indexOf_7cf53 l D tys base G sh0 hs0 x_0 i_x_0 0 q_0 hx9) ⟨rfl, rfl⟩ ⟨Nat.le_of_ble_eq_true rfl, Nat.le_of_ble_eq_true rfl⟩ ⟨Nat.le_of_ble_eq_true rfl, Nat.le_of_ble_eq_true rfl⟩ rfl rfl hl.1 (Nat.le_of_ble_eq_true rfl) dJ0_indexOf_0f7a4_3 (fun x1 G9 H locs hq hB => ?_)
  obtain ⟨rfl, i_x1, ex1⟩ := hq
  exact iv_iret X hr hlocks hB ⟨rfl, i_x1, ex1⟩ dJ0_indexOf_0f7a4_6
set_option maxHeartbeats 4000000 in
set_option maxRecDepth 100000 in
theorem e_X10_wordOf (l : Launch) (D : va_G) (tys : List (ClassId × FieldType)) (base : Nat) (G : iv_G) (h1 : Nat) (g_h1 : Nat → Int32) (r_h1 : Nat → Nat) (a_h1 : G h1 = some (45, g_h1, r_h1)) (x_1 : Int32) (i_x_1 : iv_R 0 399 x_1) (x_2 : Int32) (i_x_2 : iv_R 1 400 x_2) (h12 : x_1.toInt < x_2.toInt) : Met l yX10_wordOf (Cond.code yX10_wordOf cX10_wordOf 8 (some .int) :: iv_W0) ({ frames := 4, cells := 0, slots := 0, locals := 85 }) (iv_Pc iv_sh D classes tys base G [.ref h1, .int x_1, .int x_2]) (iv_Qi iv_sh D classes tys base (fun v G' => G = G' ∧ iv_R (-2147483648) 2147483647 v ∧ ((∃ i : Nat, i < 21 ∧ tk_eq (fun i => (g_h1 i).toInt) x_1.toInt.toNat x_2.toInt.toNat (tk_w i) ∧ v.toInt = 128 + (i : Int)) ∨ ((∀ i : Nat, i < 21 → ¬ tk_eq (fun i => (g_h1 i).toInt) x_1.toInt.toNat x_2.toInt.toNat (tk_w i)) ∧ v.toInt = 1)))) 0 0 (iv_A base) := by
  refine iv_head (by decide) (Nat.le_of_ble_eq_true rfl) ?_
  intro p e s m args below meth c ls X hr hlocks hname hB hl
  have X := X
  have hx := X.1.1
  have hb := X.1.2.1
  have hl : lv_has ls 8 [(0, .ref h1), (1, .int x_1), (2, .int x_2)] := hl
  refine lv_sipush (v := 128) hx hb dX10_wordOf_0 (by decide) ?_
  refine lv_istore_n (lv' := [(3, .int 128), (0, .ref h1), (1, .int x_1), (2, .int x_2)]) hx hb dX10_wordOf_3 rfl hl (by decide) rfl (fun ls hl => ?_)
  refine lv_iload_n hx hb dX10_wordOf_4 rfl (lv_at hl 2 rfl) ?_
  refine lv_istore (lv' := [(4, .int x_1), (3, .int 128), (0, .ref h1), (1, .int x_1), (2, .int x_2)]) hx hb dX10_wordOf_5 hl (by decide) rfl (fun ls hl => ?_)
  refine lv_iconst (v := 1) hx hb dX10_wordOf_7 (by decide) ?_
  refine lv_istore (lv' := [(5, .int 1), (4, .int x_1), (3, .int 128), (0, .ref h1), (1, .int x_1), (2, .int x_2)]) hx hb dX10_wordOf_8 hl (by decide) rfl (fun ls hl => ?_)
  refine lv_iconst (v := 0) hx hb dX10_wordOf_10 (by decide) ?_
  refine lv_istore (lv' := [(6, .int 0), (5, .int 1), (4, .int x_1), (3, .int 128), (0, .ref h1), (1, .int x_1), (2, .int x_2)]) hx hb dX10_wordOf_11 hl (by decide) rfl (fun ls hl => ?_)
  have L_13 : ∀ (n_13 : Nat) (H : Heap) (locs : List Loc) (hB : iv_B iv_sh D classes tys base G s.heap H locs) (x1 : Int32) (i_x1 : iv_R (-2147483648) 2147483647 x1) (x2 : Int32) (i_x2 : iv_R 0 700 x2) (x3 : Int32) (i_x3 : iv_R 0 1 x3) (x4 : Int32) (i_x4 : iv_R 0 255 x4) (hn_13 : (256 - x4.toInt).toNat < n_13) (inv_13 : 0 ≤ x2.toInt ∧ x2.toInt ≤ 400 + x4.toInt ∧ 0 ≤ x4.toInt) (gi_13 : x4.toInt ≤ 108 ∧ tk_I (fun i => (g_h1 i).toInt) x_1.toInt.toNat x_2.toInt.toNat x4.toInt.toNat x1.toInt x2.toInt (¬ x3 = 0)) (ls : Array Slot) (hl : lv_has ls 8 [(6, .int x4), (5, .int x3), (4, .int x2), (3, .int x1), (0, .ref h1), (1, .int x_1), (2, .int x_2)]), W p l e ({ frames := 4, cells := 0, slots := 0, locals := 85 } : Room) s m args below meth c H locs 0 0 (MQ below (iv_Qi iv_sh D classes tys base (fun v G' => G = G' ∧ iv_R (-2147483648) 2147483647 v ∧ ((∃ i : Nat, i < 21 ∧ tk_eq (fun i => (g_h1 i).toInt) x_1.toInt.toNat x_2.toInt.toNat (tk_w i) ∧ v.toInt = 128 + (i : Int)) ∨ ((∀ i : Nat, i < 21 → ¬ tk_eq (fun i => (g_h1 i).toInt) x_1.toInt.toNat x_2.toInt.toNat (tk_w i)) ∧ v.toInt = 1)))) args s 0 0 (iv_A base)) (F0 m 13 ls []) := by
    intro n_13
    induction n_13 with
    | zero => intro H locs hB x1 i_x1 x2 i_x2 x3 i_x3 x4 i_x4 hn_13 inv_13 gi_13 ls hl; exact absurd hn_13 (Nat.not_lt_zero _)
    | succ n_13 ih_13 =>
      intro H locs hB x1 i_x1 x2 i_x2 x3 i_x3 x4 i_x4 hn_13 inv_13 gi_13 ls hl
      refine lv_iload hx hb dX10_wordOf_13 (lv_at hl 0 rfl) ?_
      refine iv_sldc X (i := 0) rfl dX10_wordOf_15 ?_
      refine iv_cKi X k_good k_mf_J0_length_8abf5 k_im_J0_length_8abf5 k_sel_J0_length_8abf5 k_ml_X10_55 (by decide) rfl hB (As := []) (c_J0_length_8abf5 l D tys base G 0 (by decide)) ⟨rfl, rfl⟩ ⟨Nat.le_of_ble_eq_true rfl, Nat.le_of_ble_eq_true rfl⟩ ⟨Nat.le_of_ble_eq_true rfl, Nat.le_of_ble_eq_true rfl⟩ rfl rfl hl.1 (Nat.le_of_ble_eq_true rfl) dX10_wordOf_17 (fun x5 G9 H locs hq hB => ?_)
      obtain ⟨rfl, i_x5, e_x5⟩ := hq
      have e108 : iv_len.getD 0 0 = 108 := rfl
      rw [e108] at e_x5
      refine lv_icmp_ge (tgt := 100) hx hb dX10_wordOf_20 (by decide) (fun c6 => ?_) (fun c6 => ?_)
      · skip
        refine lv_iconst (v := 1) hx hb dX10_wordOf_100 (by decide) ?_
        exact iv_iret X hr hlocks hB ⟨rfl, (q_1.wk (by decide)), (Or.inr ⟨by have w := gi_13.2; rw [show x4.toInt.toNat = 108 from by have w1 := Int32.le_iff_toInt_le.mp c6; omega] at w; exact w.fin, rfl⟩)⟩ dX10_wordOf_101
      · skip
        have i6_x4 : iv_R 0 254 x4 := (i_x4.cutHi (n := 254) (iv_lt_r (iv_nle c6) i_x5 (by decide)))
        have i7_x5 : iv_R 1 255 x5 := (i_x5.cutLo (n := 1) (iv_lt_l (iv_nle c6) i_x4 (by decide)))
        refine iv_sldc X (i := 0) rfl dX10_wordOf_23 ?_
        refine lv_iload hx hb dX10_wordOf_25 (lv_at hl 0 rfl) ?_
        refine iv_cKi X k_good k_mf_J0_charAt_5068e k_im_J0_charAt_5068e k_sel_J0_charAt_5068e k_ml_X10_59 (by decide) rfl hB (As := [.int x4]) (e_J0_charAt_5068e l D tys base G 0 (by decide) x4 i6_x4 (by have w1 := mt Int32.le_iff_toInt_le.mpr c6; have w2 := e_x5; have w3 : iv_len.getD 0 0 = 108 := rfl; omega)) ⟨rfl, rfl⟩ ⟨Nat.le_of_ble_eq_true rfl, Nat.le_of_ble_eq_true rfl⟩ ⟨Nat.le_of_ble_eq_true rfl, Nat.le_of_ble_eq_true rfl⟩ rfl rfl hl.1 (Nat.le_of_ble_eq_true rfl) dX10_wordOf_27 (fun x9 G9 H locs hq hB => ?_)
        obtain ⟨rfl, i_x9, ex9⟩ := hq
        have e108 : iv_len.getD 0 0 = 108 := rfl
        have h108 : x4.toInt.toNat < 108 := by have w1 := mt Int32.le_iff_toInt_le.mpr c6; have w2 := i6_x4.1; omega
        have hch : tk_ch x4.toInt.toNat = x9.toInt := congrArg Int32.toInt ex9.symm
        refine lv_istore (lv' := [(7, .int x9), (6, .int x4), (5, .int x3), (4, .int x2), (3, .int x1), (0, .ref h1), (1, .int x_1), (2, .int x_2)]) hx hb dX10_wordOf_30 hl (by decide) rfl (fun ls hl => ?_)
        refine lv_iload hx hb dX10_wordOf_32 (lv_at hl 0 rfl) ?_
        refine lv_bipush (v := 32) hx hb dX10_wordOf_34 (by decide) ?_
        refine lv_icmp_eq (tgt := 72) hx hb dX10_wordOf_36 (by decide) (fun c10 => ?_) (fun c10 => ?_)
        · skip
          have i10_x9 : iv_R 32 32 x9 := ((i_x9.cutLo (n := 32) (iv_eq_r c10 q_32).1).cutHi (n := 32) (iv_eq_r c10 q_32).2)
          have hsp : tk_ch x4.toInt.toNat = 32 := hch.trans (congrArg Int32.toInt c10)
          refine lv_iload hx hb dX10_wordOf_72 (lv_at hl 2 rfl) ?_
          refine lv_if_eq (tgt := 85) hx hb dX10_wordOf_74 (by decide) (fun c12 => ?_) (fun c12 => ?_)
          · skip
            have i12_x3 : iv_R 0 0 x3 := (i_x3.cutHi (n := 0) (iv_eq_r c12 q_0).2)
            obtain ⟨x14, e_x14⟩ : ∃ y : Int32, y = x1 + Int32.ofInt 1 := ⟨_, rfl⟩
            refine lv_iinc (v := x14) (lv' := [(3, .int x14), (7, .int x9), (6, .int x4), (5, .int x3), (4, .int x2), (0, .ref h1), (1, .int x_1), (2, .int x_2)]) hx hb dX10_wordOf_85 hl (k := 4) rfl e_x14.symm (by decide) rfl (fun ls hl => ?_)
            have i_x14 := iv_R.all x14
            refine lv_iload_n hx hb dX10_wordOf_88 rfl (lv_at hl 6 rfl) ?_
            refine lv_istore (lv' := [(4, .int x_1), (3, .int x14), (7, .int x9), (6, .int x4), (5, .int x3), (0, .ref h1), (1, .int x_1), (2, .int x_2)]) hx hb dX10_wordOf_89 hl (by decide) rfl (fun ls hl => ?_)
            refine lv_iconst (v := 1) hx hb dX10_wordOf_91 (by decide) ?_
            refine lv_istore (lv' := [(5, .int 1), (4, .int x_1), (3, .int x14), (7, .int x9), (6, .int x4), (0, .ref h1), (1, .int x_1), (2, .int x_2)]) hx hb dX10_wordOf_92 hl (by decide) rfl (fun ls hl => ?_)
            refine iv_iinc hx hb i6_x4 (lo := 1) (hi := 255) (by decide) dX10_wordOf_94 hl (k := 4) rfl (by decide) (fun x15 ls e_x15 i_x15 hl => ?_)
            have hl : lv_has ls 8 [(6, .int x15), (5, .int 1), (4, .int x_1), (3, .int x14), (7, .int x9), (0, .ref h1), (1, .int x_1), (2, .int x_2)] := hl
            refine lv_goto (tgt := 13) hx hb dX10_wordOf_97 (by decide) ?_
            exact ih_13 _ _ hB x14 i_x14 x_1 (i_x_1.wk (by decide)) 1 (q_1.wk (by decide)) x15 (i_x15.wk (by decide)) (iv_mup (c := 1) i_x4 (by decide) (by decide) (by omega) hn_13) ⟨by have w1 := i_x_1.1; omega, by have w1 := i_x_1.2; omega, by omega⟩ ⟨by have w1 : x15.toInt = x4.toInt + 1 := e_x15; omega, by rw [show x15.toInt.toNat = x4.toInt.toNat + 1 from by (have w1 : x15.toInt = x4.toInt + 1 := e_x15; have w2 := i6_x4.1; omega), show x14.toInt = x1.toInt + 1 from by (rw [e_x14]; exact iv_ti_add (by have w1 := gi_13.2.1; have w2 : (Int32.ofInt 1).toInt = 1 := rfl; omega) (by have w1 := gi_13.2.1; have w2 : (Int32.ofInt 1).toInt = 1 := rfl; have w3 := (tk_chN ⟨x4.toInt.toNat, h108⟩).1; have w3 : (tk_pos x4.toInt.toNat).1 < 21 := w3; omega)), show x_1.toInt = ((x_1.toInt.toNat : Nat) : Int) from by (have w1 := i_x_1.1; omega)]; exact gi_13.2.spNo h108 hsp (Or.inl (fun q => q c12)) (by decide)⟩ _ (lv_sub hl [0, 1, 2, 3, 5, 6, 7] rfl)
          · skip
            have i15_x3 : iv_R 1 1 x3 := iv_ne_lo c12 i_x3 q_0 (by decide)
            refine lv_iload hx hb dX10_wordOf_77 (lv_at hl 3 rfl) ?_
            refine lv_iload_n hx hb dX10_wordOf_79 rfl (lv_at hl 7 rfl) ?_
            refine lv_icmp_ne (tgt := 85) hx hb dX10_wordOf_80 (by decide) (fun c17 => ?_) (fun c17 => ?_)
            · skip
              obtain ⟨x18, e_x18⟩ : ∃ y : Int32, y = x1 + Int32.ofInt 1 := ⟨_, rfl⟩
              refine lv_iinc (v := x18) (lv' := [(3, .int x18), (7, .int x9), (6, .int x4), (5, .int x3), (4, .int x2), (0, .ref h1), (1, .int x_1), (2, .int x_2)]) hx hb dX10_wordOf_85 hl (k := 4) rfl e_x18.symm (by decide) rfl (fun ls hl => ?_)
              have i_x18 := iv_R.all x18
              refine lv_iload_n hx hb dX10_wordOf_88 rfl (lv_at hl 6 rfl) ?_
              refine lv_istore (lv' := [(4, .int x_1), (3, .int x18), (7, .int x9), (6, .int x4), (5, .int x3), (0, .ref h1), (1, .int x_1), (2, .int x_2)]) hx hb dX10_wordOf_89 hl (by decide) rfl (fun ls hl => ?_)
              refine lv_iconst (v := 1) hx hb dX10_wordOf_91 (by decide) ?_
              refine lv_istore (lv' := [(5, .int 1), (4, .int x_1), (3, .int x18), (7, .int x9), (6, .int x4), (0, .ref h1), (1, .int x_1), (2, .int x_2)]) hx hb dX10_wordOf_92 hl (by decide) rfl (fun ls hl => ?_)
              refine iv_iinc hx hb i6_x4 (lo := 1) (hi := 255) (by decide) dX10_wordOf_94 hl (k := 4) rfl (by decide) (fun x19 ls e_x19 i_x19 hl => ?_)
              have hl : lv_has ls 8 [(6, .int x19), (5, .int 1), (4, .int x_1), (3, .int x18), (7, .int x9), (0, .ref h1), (1, .int x_1), (2, .int x_2)] := hl
              refine lv_goto (tgt := 13) hx hb dX10_wordOf_97 (by decide) ?_
              exact ih_13 _ _ hB x18 i_x18 x_1 (i_x_1.wk (by decide)) 1 (q_1.wk (by decide)) x19 (i_x19.wk (by decide)) (iv_mup (c := 1) i_x4 (by decide) (by decide) (by omega) hn_13) ⟨by have w1 := i_x_1.1; omega, by have w1 := i_x_1.2; omega, by omega⟩ ⟨by have w1 : x19.toInt = x4.toInt + 1 := e_x19; omega, by rw [show x19.toInt.toNat = x4.toInt.toNat + 1 from by (have w1 : x19.toInt = x4.toInt + 1 := e_x19; have w2 := i6_x4.1; omega), show x18.toInt = x1.toInt + 1 from by (rw [e_x18]; exact iv_ti_add (by have w1 := gi_13.2.1; have w2 : (Int32.ofInt 1).toInt = 1 := rfl; omega) (by have w1 := gi_13.2.1; have w2 : (Int32.ofInt 1).toInt = 1 := rfl; have w3 := (tk_chN ⟨x4.toInt.toNat, h108⟩).1; have w3 : (tk_pos x4.toInt.toNat).1 < 21 := w3; omega)), show x_1.toInt = ((x_1.toInt.toNat : Nat) : Int) from by (have w1 := i_x_1.1; omega)]; exact gi_13.2.spNo h108 hsp (Or.inr (fun q => c17 (Int32.toInt_inj.mp (by have w1 := i_x_2.1; omega)))) (by decide)⟩ _ (lv_sub hl [0, 1, 2, 3, 5, 6, 7] rfl)
            · skip
              have i19_x2 : iv_R 1 400 x2 := ((i_x2.cutLo (n := 1) (iv_eq_r c17 i_x_2).1).cutHi (n := 400) (iv_eq_r c17 i_x_2).2)
              refine lv_iload_n hx hb dX10_wordOf_83 rfl (lv_at hl 4 rfl) ?_
              exact iv_iret X hr hlocks hB ⟨rfl, i_x1, (Or.inl (gi_13.2.spYes h108 hsp c12 (by have w1 := congrArg Int32.toInt c17; omega)))⟩ dX10_wordOf_84
        · skip
          refine lv_iload hx hb dX10_wordOf_39 (lv_at hl 2 rfl) ?_
          have hnl : ¬ tk_ch x4.toInt.toNat = 32 := fun q => c10 (Int32.toInt_inj.mp (hch.symm.trans q))
          refine lv_if_eq (tgt := 63) hx hb dX10_wordOf_41 (by decide) (fun c21 => ?_) (fun c21 => ?_)
          · skip
            have i21_x3 : iv_R 0 0 x3 := (i_x3.cutHi (n := 0) (iv_eq_r c21 q_0).2)
            refine lv_iconst (v := 0) hx hb dX10_wordOf_63 (by decide) ?_
            refine lv_istore (lv' := [(5, .int 0), (7, .int x9), (6, .int x4), (4, .int x2), (3, .int x1), (0, .ref h1), (1, .int x_1), (2, .int x_2)]) hx hb dX10_wordOf_64 hl (by decide) rfl (fun ls hl => ?_)
            refine iv_iinc hx hb i_x2 (lo := 1) (hi := 701) (by decide) dX10_wordOf_66 hl (k := 3) rfl (by decide) (fun x23 ls e_x23 i_x23 hl => ?_)
            have hl : lv_has ls 8 [(4, .int x23), (5, .int 0), (7, .int x9), (6, .int x4), (3, .int x1), (0, .ref h1), (1, .int x_1), (2, .int x_2)] := hl
            refine lv_goto (tgt := 94) hx hb dX10_wordOf_69 (by decide) ?_
            refine iv_iinc hx hb i6_x4 (lo := 1) (hi := 255) (by decide) dX10_wordOf_94 hl (k := 3) rfl (by decide) (fun x24 ls e_x24 i_x24 hl => ?_)
            have hl : lv_has ls 8 [(6, .int x24), (4, .int x23), (5, .int 0), (7, .int x9), (3, .int x1), (0, .ref h1), (1, .int x_1), (2, .int x_2)] := hl
            refine lv_goto (tgt := 13) hx hb dX10_wordOf_97 (by decide) ?_
            exact ih_13 _ _ hB x1 i_x1 x23 ⟨by have w1 := i_x_1.1; omega, by have w1 := i_x_1.2; have w2 := i_x24.2; omega⟩ 0 (q_0.wk (by decide)) x24 (i_x24.wk (by decide)) (iv_mup (c := 1) i_x4 (by decide) (by decide) (by omega) hn_13) ⟨by have w1 := i_x_1.1; omega, by have w1 := i_x_1.2; omega, by omega⟩ ⟨by have w1 : x24.toInt = x4.toInt + 1 := e_x24; omega, by rw [show x24.toInt.toNat = x4.toInt.toNat + 1 from by (have w1 : x24.toInt = x4.toInt + 1 := e_x24; have w2 := i6_x4.1; omega), show x23.toInt = x2.toInt + 1 from e_x23]; exact gi_13.2.let h108 hnl (⟨fun q => absurd rfl q, fun q => absurd c21 q.1⟩)⟩ _ (lv_sub hl [0, 2, 1, 4, 5, 6, 7] rfl)
          · skip
            have i24_x3 : iv_R 1 1 x3 := iv_ne_lo c21 i_x3 q_0 (by decide)
            refine lv_iload hx hb dX10_wordOf_44 (lv_at hl 3 rfl) ?_
            refine lv_iload_n hx hb dX10_wordOf_46 rfl (lv_at hl 7 rfl) ?_
            refine lv_icmp_ge (tgt := 63) hx hb dX10_wordOf_47 (by decide) (fun c26 => ?_) (fun c26 => ?_)
            · skip
              have i26_x2 : iv_R 1 700 x2 := (i_x2.cutLo (n := 1) (iv_le_l c26 i_x_2))
              refine lv_iconst (v := 0) hx hb dX10_wordOf_63 (by decide) ?_
              refine lv_istore (lv' := [(5, .int 0), (7, .int x9), (6, .int x4), (4, .int x2), (3, .int x1), (0, .ref h1), (1, .int x_1), (2, .int x_2)]) hx hb dX10_wordOf_64 hl (by decide) rfl (fun ls hl => ?_)
              refine iv_iinc hx hb i26_x2 (lo := 2) (hi := 701) (by decide) dX10_wordOf_66 hl (k := 3) rfl (by decide) (fun x28 ls e_x28 i_x28 hl => ?_)
              have hl : lv_has ls 8 [(4, .int x28), (5, .int 0), (7, .int x9), (6, .int x4), (3, .int x1), (0, .ref h1), (1, .int x_1), (2, .int x_2)] := hl
              refine lv_goto (tgt := 94) hx hb dX10_wordOf_69 (by decide) ?_
              refine iv_iinc hx hb i6_x4 (lo := 1) (hi := 255) (by decide) dX10_wordOf_94 hl (k := 3) rfl (by decide) (fun x29 ls e_x29 i_x29 hl => ?_)
              have hl : lv_has ls 8 [(6, .int x29), (4, .int x28), (5, .int 0), (7, .int x9), (3, .int x1), (0, .ref h1), (1, .int x_1), (2, .int x_2)] := hl
              refine lv_goto (tgt := 13) hx hb dX10_wordOf_97 (by decide) ?_
              exact ih_13 _ _ hB x1 i_x1 x28 ⟨by have w1 := i_x_1.1; omega, by have w1 := i_x_1.2; have w2 := i_x29.2; omega⟩ 0 (q_0.wk (by decide)) x29 (i_x29.wk (by decide)) (iv_mup (c := 1) i_x4 (by decide) (by decide) (by omega) hn_13) ⟨by have w1 := i_x_1.1; omega, by have w1 := i_x_1.2; omega, by omega⟩ ⟨by have w1 : x29.toInt = x4.toInt + 1 := e_x29; omega, by rw [show x29.toInt.toNat = x4.toInt.toNat + 1 from by (have w1 : x29.toInt = x4.toInt + 1 := e_x29; have w2 := i6_x4.1; omega), show x28.toInt = x2.toInt + 1 from e_x28]; exact gi_13.2.let h108 hnl (⟨fun q => absurd rfl q, fun q => absurd q.2.1 (by have w1 := Int32.le_iff_toInt_le.mp c26; omega)⟩)⟩ _ (lv_sub hl [0, 2, 1, 4, 5, 6, 7] rfl)
            · skip
              have i29_x2 : iv_R 0 399 x2 := (i_x2.cutHi (n := 399) (iv_lt_r (iv_nle c26) i_x_2 (by decide)))
              refine lv_aload_n hx hb dX10_wordOf_50 rfl (lv_at hl 5 rfl) ?_
              refine lv_iload hx hb dX10_wordOf_51 (lv_at hl 3 rfl) ?_
              refine iv_ald X hB a_h1 sh_45 (iv_in i29_x2 (by decide)) dX10_wordOf_53 (fun x31 e_x31 i_x31 => ?_)
              have e31 : x31 = g_h1 x2.toInt.toNat := e_x31
              refine lv_iload hx hb dX10_wordOf_54 (lv_at hl 0 rfl) ?_
              refine lv_icmp_ne (tgt := 63) hx hb dX10_wordOf_56 (by decide) (fun c32 => ?_) (fun c32 => ?_)
              · skip
                refine lv_iconst (v := 0) hx hb dX10_wordOf_63 (by decide) ?_
                refine lv_istore (lv' := [(5, .int 0), (7, .int x9), (6, .int x4), (4, .int x2), (3, .int x1), (0, .ref h1), (1, .int x_1), (2, .int x_2)]) hx hb dX10_wordOf_64 hl (by decide) rfl (fun ls hl => ?_)
                refine iv_iinc hx hb i29_x2 (lo := 1) (hi := 400) (by decide) dX10_wordOf_66 hl (k := 3) rfl (by decide) (fun x33 ls e_x33 i_x33 hl => ?_)
                have hl : lv_has ls 8 [(4, .int x33), (5, .int 0), (7, .int x9), (6, .int x4), (3, .int x1), (0, .ref h1), (1, .int x_1), (2, .int x_2)] := hl
                refine lv_goto (tgt := 94) hx hb dX10_wordOf_69 (by decide) ?_
                refine iv_iinc hx hb i6_x4 (lo := 1) (hi := 255) (by decide) dX10_wordOf_94 hl (k := 3) rfl (by decide) (fun x34 ls e_x34 i_x34 hl => ?_)
                have hl : lv_has ls 8 [(6, .int x34), (4, .int x33), (5, .int 0), (7, .int x9), (3, .int x1), (0, .ref h1), (1, .int x_1), (2, .int x_2)] := hl
                refine lv_goto (tgt := 13) hx hb dX10_wordOf_97 (by decide) ?_
                exact ih_13 _ _ hB x1 i_x1 x33 (i_x33.wk (by decide)) 0 (q_0.wk (by decide)) x34 (i_x34.wk (by decide)) (iv_mup (c := 1) i_x4 (by decide) (by decide) (by omega) hn_13) ⟨by have w1 := i_x_1.1; omega, by have w1 := i_x_1.2; omega, by omega⟩ ⟨by have w1 : x34.toInt = x4.toInt + 1 := e_x34; omega, by rw [show x34.toInt.toNat = x4.toInt.toNat + 1 from by (have w1 : x34.toInt = x4.toInt + 1 := e_x34; have w2 := i6_x4.1; omega), show x33.toInt = x2.toInt + 1 from e_x33]; exact gi_13.2.let h108 hnl (⟨fun q => absurd rfl q, fun q => absurd (Int32.toInt_inj.mp ((congrArg Int32.toInt e31).trans (q.2.2.trans hch))) c32⟩)⟩ _ (lv_sub hl [0, 2, 1, 4, 5, 6, 7] rfl)
              · skip
                have i34_x31 : iv_R 0 255 x31 := ((i_x31.cutLo (n := 0) (iv_eq_r c32 i_x9).1).cutHi (n := 255) (iv_eq_r c32 i_x9).2)
                refine lv_iconst (v := 1) hx hb dX10_wordOf_59 (by decide) ?_
                refine lv_goto (tgt := 64) hx hb dX10_wordOf_60 (by decide) ?_
                refine lv_istore (lv' := [(5, .int 1), (7, .int x9), (6, .int x4), (4, .int x2), (3, .int x1), (0, .ref h1), (1, .int x_1), (2, .int x_2)]) hx hb dX10_wordOf_64 hl (by decide) rfl (fun ls hl => ?_)
                refine iv_iinc hx hb i29_x2 (lo := 1) (hi := 400) (by decide) dX10_wordOf_66 hl (k := 3) rfl (by decide) (fun x36 ls e_x36 i_x36 hl => ?_)
                have hl : lv_has ls 8 [(4, .int x36), (5, .int 1), (7, .int x9), (6, .int x4), (3, .int x1), (0, .ref h1), (1, .int x_1), (2, .int x_2)] := hl
                refine lv_goto (tgt := 94) hx hb dX10_wordOf_69 (by decide) ?_
                refine iv_iinc hx hb i6_x4 (lo := 1) (hi := 255) (by decide) dX10_wordOf_94 hl (k := 3) rfl (by decide) (fun x37 ls e_x37 i_x37 hl => ?_)
                have hl : lv_has ls 8 [(6, .int x37), (4, .int x36), (5, .int 1), (7, .int x9), (3, .int x1), (0, .ref h1), (1, .int x_1), (2, .int x_2)] := hl
                refine lv_goto (tgt := 13) hx hb dX10_wordOf_97 (by decide) ?_
                exact ih_13 _ _ hB x1 i_x1 x36 (i_x36.wk (by decide)) 1 (q_1.wk (by decide)) x37 (i_x37.wk (by decide)) (iv_mup (c := 1) i_x4 (by decide) (by decide) (by omega) hn_13) ⟨by have w1 := i_x_1.1; omega, by have w1 := i_x_1.2; omega, by omega⟩ ⟨by have w1 : x37.toInt = x4.toInt + 1 := e_x37; omega, by rw [show x37.toInt.toNat = x4.toInt.toNat + 1 from by (have w1 : x37.toInt = x4.toInt + 1 := e_x37; have w2 := i6_x4.1; omega), show x36.toInt = x2.toInt + 1 from e_x36]; exact gi_13.2.let h108 hnl (⟨fun _ => ⟨c21, by have w1 := mt Int32.le_iff_toInt_le.mpr c26; omega, (congrArg Int32.toInt (e31.symm.trans c32)).trans hch.symm⟩, fun _ => by decide⟩)⟩ _ (lv_sub hl [0, 2, 1, 4, 5, 6, 7] rfl)
  exact L_13 _ _ _ hB 128 (q_128.wk (by decide)) x_1 (i_x_1.wk (by decide)) 1 (q_1.wk (by decide)) 0 (q_0.wk (by decide)) (Nat.lt_succ_self _) ⟨i_x_1.1, by have w1 := i_x_1.2; have w2 : (0 : Int32).toInt = 0 := rfl; omega, by decide⟩ ⟨by decide, by have w := tk_I.zero (T := (fun i => (g_h1 i).toInt)) (p := x_1.toInt.toNat) (e := x_2.toInt.toNat) (s := ¬ (1 : Int32) = 0) (by decide); rw [show ((x_1.toInt.toNat : Nat) : Int) = x_1.toInt from by (have w1 := i_x_1.1; omega)] at w; exact w⟩ _ (lv_sub hl [0, 1, 2, 3, 4, 5, 6] rfl)
