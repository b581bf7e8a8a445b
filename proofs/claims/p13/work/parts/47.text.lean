theorem iv_MdT.of0 {S : List Nat} {G G' : iv_G} (h : iv_Md0 S G G') : iv_MdT S G G' := fun a k hk => by
  obtain ⟨k', h1, h2, h3, h4⟩ := h a k hk
  exact ⟨k', h1, h2, h3, h4.1, fun j hj => h4.2.1 (iv_keys_ne7 _ j hj) j (iv_keys_stab _ j hj)⟩
theorem iv_Md.grow {S : List Nat} {G G' : iv_G} (h : ∀ (a : Nat) (k : iv_K), G a = some k → G' a = some k) : iv_Md S G G' := fun a k hk => ⟨k, h a k hk, rfl, fun _ => rfl, iv_rel.rf k⟩
theorem iv_czI {g : Nat → Int32} {L i : Nat} (h : i < L) : iv_cz g L i = g i := by
  unfold iv_cz
  exact if_pos h
section IVT
variable {p : Program} {l : Launch} {e : Env} {R : Room} {s : State} {m : MethodId} {args : Array Value} {below : List Frame} {meth : Method} {c : Code} {H : Heap} {locs : List Loc} {cells slots : Nat} {Q : State → Prop}
variable {cc : ByteArray} {nL pc : Nat} {ls : Array Slot} {rest : List Value} {D : va_G} {cl : List vw_C} {tys : List (ClassId × FieldType)} {base : Nat} {G : iv_G} {a b : Nat} {W0 : List Cond} {own : String} {sh : Nat → iv_Sh}
/-- a call of a method that makes objects, too -/
theorem iv_cVvA (X : iv_X p m c cc nL s args W0 own D cl tys base) (hW0 : W0.all goodWord = true) {y : MethodName} {bytes : ByteArray} {maxL index n ci N cd mc ms : Nat} {ret : Option FieldType} {rm : Room} (M : iv_MF W0 y bytes maxL ret n) (hinst : Cond.instanceMethod y ∈ W0) (hsel : Cond.selects y.cls y y ∈ W0) (hl : Cond.methodLink own index y ∈ W0) {T : u_T} {ty : Nat → FieldType} (F : iv_FT cl W0 ci y.cls T N ty) (hB : iv_B sh D cl tys base G s.heap H locs) {g : Nat → Int32} {r : Nat → Nat} (ha : G b = some (cd, g, r)) {ts : iv_K → Nat → iv_T} (hsh : sh cd = .inl (ci, ts))
    {As : List Value} {post : iv_G → Prop} (hM : Met l y (Cond.code y bytes maxL ret :: W0) rm (iv_Pc sh D cl tys base G (.ref b :: As)) (iv_Qv sh D cl tys base post) mc ms (iv_A base)) (hr0 : rm.cells = mc ∧ rm.slots = ms) (hR : rm.frames + 1 ≤ R.frames ∧ 8 + (maxL + 11) + rm.locals ≤ R.locals) (hRc : cells + mc ≤ R.cells ∧ slots + ms ≤ R.slots) {st0 : List Value} (hst : st0 = As.reverse ++ .ref b :: rest) (hn : As.length = n) (hsize : ls.size = nL) (hcat : (rest.map fun v => v.category).sum ≤ 8) (hdg : decode cc pc = .ok (.invokevirtual index, 3))
    (kk : ∀ (G1 : iv_G) (H1 : Heap) (locs1 : List Loc), post G1 → iv_B sh D cl tys base G1 s.heap H1 locs1 → W p l e R s m args below meth c H1 locs1 (cells + mc) (slots + ms) Q (F0 m (pc + 3) ls rest)) : W p l e R s m args below meth c H locs cells slots Q (F0 m pc ls st0) := by
  obtain ⟨q, h1, ⟨cell, o1, o2, o3, o4⟩, h3⟩ := (hB.got ha).obj hsh
  have hq : q = (y.cls, T, N) := Option.some.inj (h1.symm.trans F.1)
  rw [hq] at h1
  have hcls := (X.2.1.1 ci _ h1).2
  refine va_callv (va_runV (As := As) (rest := rest) (C := y.cls) X.1 hM ⟨iv_callB X hW0 M hl hr0 hR, X.1.2.2.2.2 _ hinst, X.1.2.2.2.2 _ hsel⟩ ⟨iv_Pc_blind, ⟨cell, o1, by rw [o3]; rfl, by rw [o2]; exact hcls.1⟩, fun U hU hW => ⟨rfl, by rw [hU]; exact hB.1, ⟨va_K.moved hW.alike X.2.1, iv_N.warm hW hB.2.1 hU X.2.2⟩, by rw [hU]; exact Nat.le_trans hB.2.2 hB.2.1.1⟩⟩ rfl hn hsize hst (lv_room hcat) hdg hRc) hB.2.1 (fun _ _ h => h) (fun _ h => h) (fun u t H1 locs1 ht hvm hw hb1 hz1 hk1 hS => ?_)
  exact kk u H1 locs1 hw ⟨by rw [← ht]; exact hb1.1, hS, hB.2.2⟩
end IVT
theorem iv_got7_10 {D : va_G} {tys : List (ClassId × FieldType)} {base : Nat} {G : iv_G} {H0 H : Heap} {locs : List Loc} {a : Nat} {g : Nat → Int32} {r : Nat → Nat} (hB : iv_B iv_sh D classes tys base G H0 H locs) (ha : G a = some (7, g, r)) : ∃ (f : Nat → Int32) (q : Nat → Nat), G (r 10) = some (34, f, q) := by
  obtain ⟨q, h1, h2, h3⟩ := (hB.got ha).obj sh_7
  have hq : q = (RX7, TX7, 15) := Option.some.inj (h1.symm.trans ft_X7.1)
  rw [hq] at h3
  obtain ⟨⟨c', g', r'⟩, h5, h6⟩ : ∃ k' : iv_K, G (r 10) = some k' ∧ k'.1 = 34 := h3 10 (by decide)
  have h6 : c' = 34 := h6
  rw [h6] at h5
  exact ⟨g', r', h5⟩
theorem iv_got7_13 {D : va_G} {tys : List (ClassId × FieldType)} {base : Nat} {G : iv_G} {H0 H : Heap} {locs : List Loc} {a : Nat} {g : Nat → Int32} {r : Nat → Nat} (hB : iv_B iv_sh D classes tys base G H0 H locs) (ha : G a = some (7, g, r)) : ∃ (f : Nat → Int32) (q : Nat → Nat), G (r 13) = some (37, f, q) := by
  obtain ⟨q, h1, h2, h3⟩ := (hB.got ha).obj sh_7
  have hq : q = (RX7, TX7, 15) := Option.some.inj (h1.symm.trans ft_X7.1)
  rw [hq] at h3
  obtain ⟨⟨c', g', r'⟩, h5, h6⟩ : ∃ k' : iv_K, G (r 13) = some k' ∧ k'.1 = 37 := h3 13 (by decide)
  have h6 : c' = 37 := h6
  rw [h6] at h5
  exact ⟨g', r', h5⟩
theorem iv_got7_14 {D : va_G} {tys : List (ClassId × FieldType)} {base : Nat} {G : iv_G} {H0 H : Heap} {locs : List Loc} {a : Nat} {g : Nat → Int32} {r : Nat → Nat} (hB : iv_B iv_sh D classes tys base G H0 H locs) (ha : G a = some (7, g, r)) : ∃ (f : Nat → Int32) (q : Nat → Nat), G (r 14) = some (38, f, q) := by
  obtain ⟨q, h1, h2, h3⟩ := (hB.got ha).obj sh_7
  have hq : q = (RX7, TX7, 15) := Option.some.inj (h1.symm.trans ft_X7.1)
  rw [hq] at h3
  obtain ⟨⟨c', g', r'⟩, h5, h6⟩ : ∃ k' : iv_K, G (r 14) = some k' ∧ k'.1 = 38 := h3 14 (by decide)
  have h6 : c' = 38 := h6
  rw [h6] at h5
  exact ⟨g', r', h5⟩
theorem dX11_takeLaw_0 : decode cX11_takeLaw 0 = .ok (.new 211, 3) := by decide +kernel
theorem dX11_takeLaw_3 : decode cX11_takeLaw 3 = .ok (.dup, 1) := by decide +kernel
theorem dX11_takeLaw_4 : decode cX11_takeLaw 4 = .ok (.aload_n 0, 1) := by decide +kernel
theorem dX11_takeLaw_5 : decode cX11_takeLaw 5 = .ok (.getfield 33, 3) := by decide +kernel
theorem dX11_takeLaw_8 : decode cX11_takeLaw 8 = .ok (.getfield 197, 3) := by decide +kernel
theorem dX11_takeLaw_11 : decode cX11_takeLaw 11 = .ok (.aload_n 0, 1) := by decide +kernel
theorem dX11_takeLaw_12 : decode cX11_takeLaw 12 = .ok (.getfield 33, 3) := by decide +kernel
theorem dX11_takeLaw_15 : decode cX11_takeLaw 15 = .ok (.getfield 213, 3) := by decide +kernel
theorem dX11_takeLaw_18 : decode cX11_takeLaw 18 = .ok (.aload_n 0, 1) := by decide +kernel
theorem dX11_takeLaw_19 : decode cX11_takeLaw 19 = .ok (.getfield 33, 3) := by decide +kernel
theorem dX11_takeLaw_22 : decode cX11_takeLaw 22 = .ok (.getfield 216, 3) := by decide +kernel
theorem dX11_takeLaw_25 : decode cX11_takeLaw 25 = .ok (.aload_n 0, 1) := by decide +kernel
theorem dX11_takeLaw_26 : decode cX11_takeLaw 26 = .ok (.getfield 33, 3) := by decide +kernel
theorem dX11_takeLaw_29 : decode cX11_takeLaw 29 = .ok (.getfield 219, 3) := by decide +kernel
theorem dX11_takeLaw_32 : decode cX11_takeLaw 32 = .ok (.aload_n 0, 1) := by decide +kernel
theorem dX11_takeLaw_33 : decode cX11_takeLaw 33 = .ok (.getfield 33, 3) := by decide +kernel
theorem dX11_takeLaw_36 : decode cX11_takeLaw 36 = .ok (.getfield 222, 3) := by decide +kernel
theorem dX11_takeLaw_39 : decode cX11_takeLaw 39 = .ok (.aload_n 0, 1) := by decide +kernel
theorem dX11_takeLaw_40 : decode cX11_takeLaw 40 = .ok (.getfield 33, 3) := by decide +kernel
theorem dX11_takeLaw_43 : decode cX11_takeLaw 43 = .ok (.getfield 225, 3) := by decide +kernel
theorem dX11_takeLaw_46 : decode cX11_takeLaw 46 = .ok (.invokespecial 228, 3) := by decide +kernel
theorem dX11_takeLaw_49 : decode cX11_takeLaw 49 = .ok (.astore_n 2, 1) := by decide +kernel
theorem dX11_takeLaw_50 : decode cX11_takeLaw 50 = .ok (.iload_n 1, 1) := by decide +kernel
theorem dX11_takeLaw_51 : decode cX11_takeLaw 51 = .ok (.ifCond .eq 14, 3) := by decide +kernel
theorem dX11_takeLaw_54 : decode cX11_takeLaw 54 = .ok (.aload_n 0, 1) := by decide +kernel
theorem dX11_takeLaw_55 : decode cX11_takeLaw 55 = .ok (.getfield 12, 3) := by decide +kernel
theorem dX11_takeLaw_58 : decode cX11_takeLaw 58 = .ok (.aload_n 2, 1) := by decide +kernel
theorem dX11_takeLaw_59 : decode cX11_takeLaw 59 = .ok (.putfield 231, 3) := by decide +kernel
theorem dX11_takeLaw_62 : decode cX11_takeLaw 62 = .ok (.goto 11, 3) := by decide +kernel
theorem dX11_takeLaw_65 : decode cX11_takeLaw 65 = .ok (.aload_n 0, 1) := by decide +kernel
theorem dX11_takeLaw_66 : decode cX11_takeLaw 66 = .ok (.getfield 12, 3) := by decide +kernel
theorem dX11_takeLaw_69 : decode cX11_takeLaw 69 = .ok (.aload_n 2, 1) := by decide +kernel
theorem dX11_takeLaw_70 : decode cX11_takeLaw 70 = .ok (.putfield 235, 3) := by decide +kernel
theorem dX11_takeLaw_73 : decode cX11_takeLaw 73 = .ok (.return_, 1) := by decide +kernel
set_option maxHeartbeats 4000000 in
set_option maxRecDepth 100000 in
theorem c_X11_takeLaw (l : Launch) (D : va_G) (tys : List (ClassId × FieldType)) (base : Nat) (G : iv_G) (h0 : Nat) (g_h0 : Nat → Int32) (r_h0 : Nat → Nat) (a_h0 : G h0 = some (11, g_h0, r_h0)) (x_0 : Int32) (i_x_0 : iv_R 0 1 x_0) (hty : iv_ty tys) (hE : iv_RE (r_h0 6) G) : Met l yX11_takeLaw (Cond.code yX11_takeLaw cX11_takeLaw 3 none :: iv_W0) ({ frames := 3, cells := 7, slots := 896, locals := 109 }) (iv_Pc iv_sh D classes tys base G [.ref h0, .int x_0]) (iv_Qv iv_sh D classes tys base (fun G' => iv_Md [5] G G')) 7 896 (iv_A base) := by
  refine iv_head (by decide) (Nat.le_of_ble_eq_true rfl) ?_
  intro p e s m args below meth c ls X hr hlocks hname hB hl
  have hx := X.1.1
  have hb := X.1.2.1
  have hl : lv_has ls 3 [(0, .ref h0), (1, .int x_0)] := hl
  obtain ⟨g, r, gs, rs, gw, rv, t1, t2, t3, p0, p16, p4, p5, p6⟩ := hE
  obtain ⟨gwd, rwd, twd⟩ := iv_got7_10 hB t1
  obtain ⟨gcd, rcd, tcd⟩ := iv_got7_13 hB t1
  obtain ⟨gnm, rnm, tnm⟩ := iv_got7_14 hB t1
  have q5 : iv_E 0 400 17 gs := ((hB.got t2).arr sh_35).choose_spec.2.2
  have q6 : iv_E 0 400 16 gw := ((hB.got t3).arr sh_36).choose_spec.2.2
  have q7 : iv_E 0 148 400 gcd := ((hB.got tcd).arr sh_37).choose_spec.2.2
  obtain ⟨n, hn⟩ : ∃ n, n = (g 8).toInt.toNat := ⟨_, rfl⟩
  rw [← hn] at p4 p5 p6
  have hn16 : n ≤ 16 := by omega
  have hxn : (g 8).toInt = (n : Int) := by omega
  have qn := q5 n (by omega)
  obtain ⟨u, hu⟩ : ∃ u, u = (gs n).toInt.toNat := ⟨_, rfl⟩
  have hu4 : u ≤ 400 := by have := qn.1; have := qn.2; omega
  have hgu : (gs n).toInt = (u : Int) := by have := qn.1; omega
  have hBM : iv_M iv_sh D classes tys base s.heap.size G s.heap s.heap [] := ⟨hB.1, va_S.rf, hB.2.2, Nat.le_refl _⟩
  have hbs := hB.2.2
  refine iv_newo X hBM ft_X3 k_cl_X11_211 k_it_X3 k_ii_X3 (Nat.le_of_ble_eq_true rfl) (Nat.le_of_ble_eq_true rfl) dX11_takeLaw_0 (fun q1 H1 z1 y1 o1 hOq n1 hBM => ?_)
  refine lv_dup hx hb dX11_takeLaw_3 rfl ?_
  refine lv_aload_n hx hb dX11_takeLaw_4 rfl (lv_at hl 0 rfl) ?_
  refine iv_getr0 X ft_X11 hBM.B a_h0 sh_11 6 (by decide) rfl k_fl_X11_33 dX11_takeLaw_5 (b := r_h0 6) rfl ?_
  refine iv_geti0 X ft_X7 hBM.B t1 sh_7 8 (by decide) rfl k_fl_X11_197 dX11_takeLaw_8 (x := g 8) rfl ?_
  refine lv_aload_n hx hb dX11_takeLaw_11 rfl (lv_at hl 0 rfl) ?_
  refine iv_getr0 X ft_X11 hBM.B a_h0 sh_11 6 (by decide) rfl k_fl_X11_33 dX11_takeLaw_12 (b := r_h0 6) rfl ?_
  refine iv_getr0 X ft_X7 hBM.B t1 sh_7 10 (by decide) rfl k_fl_X11_213 dX11_takeLaw_15 (b := r 10) rfl ?_
  refine lv_aload_n hx hb dX11_takeLaw_18 rfl (lv_at hl 0 rfl) ?_
  refine iv_getr0 X ft_X11 hBM.B a_h0 sh_11 6 (by decide) rfl k_fl_X11_33 dX11_takeLaw_19 (b := r_h0 6) rfl ?_
  refine iv_getr0 X ft_X7 hBM.B t1 sh_7 11 (by decide) rfl k_fl_X11_216 dX11_takeLaw_22 (b := r 11) rfl ?_
  refine lv_aload_n hx hb dX11_takeLaw_25 rfl (lv_at hl 0 rfl) ?_
  refine iv_getr0 X ft_X11 hBM.B a_h0 sh_11 6 (by decide) rfl k_fl_X11_33 dX11_takeLaw_26 (b := r_h0 6) rfl ?_
  refine iv_getr0 X ft_X7 hBM.B t1 sh_7 12 (by decide) rfl k_fl_X11_219 dX11_takeLaw_29 (b := r 12) rfl ?_
  refine lv_aload_n hx hb dX11_takeLaw_32 rfl (lv_at hl 0 rfl) ?_
  refine iv_getr0 X ft_X11 hBM.B a_h0 sh_11 6 (by decide) rfl k_fl_X11_33 dX11_takeLaw_33 (b := r_h0 6) rfl ?_
  refine iv_getr0 X ft_X7 hBM.B t1 sh_7 13 (by decide) rfl k_fl_X11_222 dX11_takeLaw_36 (b := r 13) rfl ?_
  refine lv_aload_n hx hb dX11_takeLaw_39 rfl (lv_at hl 0 rfl) ?_
  refine iv_getr0 X ft_X11 hBM.B a_h0 sh_11 6 (by decide) rfl k_fl_X11_33 dX11_takeLaw_40 (b := r_h0 6) rfl ?_
  refine iv_getr0 X ft_X7 hBM.B t1 sh_7 14 (by decide) rfl k_fl_X11_225 dX11_takeLaw_43 (b := r 14) rfl ?_
  refine iv_cI X k_good k_mf_X3_init rfl k_im_X3_init (Or.inl k_ml_X11_228) hBM (show s.heap.size ≤ q1 by omega) (O := fun H9 => t_OB q1 (D.1 3) 7 (D.2 3) H9 (fun j => defaultValue (tyX3 j))) hOq rfl (As := [.int (g 8), .ref (r 10), .ref (r 11), .ref (r 12), .ref (r 13), .ref (r 14)]) (c_X3_init l D tys base G hty q1 _ (show H1.size = q1 + 1 by omega) (by omega) n1 n u hn16 hu4 (g 8) hxn (r 10) _ _ 34 16 _ twd sh_34 (by decide) (r 11) _ _ 35 17 _ t2 sh_35 (by decide) (r 12) _ _ 36 16 _ t3 sh_36 (by decide) (r 13) _ _ 37 400 _ tcd sh_37 (by decide) (r 14) _ _ 38 400 _ tnm sh_38 (by decide) (fun i hi => by rw [iv_czI (by omega)]; exact ⟨(q5 i (by omega)).1, by rw [← hgu]; exact p5 i (by omega)⟩) (by rw [iv_czI (by omega)]; exact hgu) (fun i hi => by rw [iv_czI (by omega)]; exact ⟨(q6 i (by omega)).1, by rw [← hgu]; exact p6 i (by omega)⟩) (fun i hi => by rw [iv_czI (by omega)]; exact q7 i (by omega))) ⟨rfl, rfl⟩ ⟨Nat.le_of_ble_eq_true rfl, Nat.le_of_ble_eq_true rfl⟩ ⟨Nat.le_of_ble_eq_true rfl, Nat.le_of_ble_eq_true rfl⟩ rfl rfl hl.1 (Nat.le_of_ble_eq_true rfl) dX11_takeLaw_46 (fun G2 H2 locs2 hw z2 hk hBM2 => ?_)
  obtain ⟨gr2, g_q, r_q, t_q⟩ := hw
  have hgw : ∀ (a9 : Nat) (k9 : iv_K), G a9 = some k9 → G2 a9 = some k9 := fun a9 k9 h9 => gr2.kp hBM.1 (by omega) n1 h9
  have a_h0 := hgw _ _ a_h0
  have hB := hBM2.B
  have hM : iv_Md [5] G G2 := iv_Md.grow hgw
  refine lv_astore_n (lv' := [(2, .ref q1), (0, .ref h0), (1, .int x_0)]) hx hb dX11_takeLaw_49 rfl hl (by decide) rfl (fun ls hl => ?_)
  refine lv_iload_n hx hb dX11_takeLaw_50 rfl (lv_at hl 2 rfl) ?_
  refine lv_if_eq (tgt := 65) hx hb dX11_takeLaw_51 (by decide) (fun c1 => ?_) (fun c1 => ?_)
  · refine lv_aload_n hx hb dX11_takeLaw_65 rfl (lv_at hl 1 rfl) ?_
    refine iv_getr X ft_X11 hB a_h0 sh_11 0 (by decide) rfl k_fl_X11_12 dX11_takeLaw_66 (fun b g_b r_b e_b a_b => ?_)
    refine lv_aload_n hx hb dX11_takeLaw_69 rfl (lv_at hl 0 rfl) ?_
    refine iv_putr X ft_X5 hB a_b sh_5 14 (by decide) rfl rfl k_fl_X11_235 rfl t_q rfl rfl rfl dX11_takeLaw_70 (fun H locs hB => ?_)
    have hM := hM.stp (iv_Md.putr (b := q1) a_b (j := 14) (by decide)) (by decide)
    refine W.widen (k := 7) (n := 896) (Nat.le_of_ble_eq_true rfl) (Nat.le_of_ble_eq_true rfl) ?_
    exact iv_vret X hr hlocks hB hM dX11_takeLaw_73
  · refine lv_aload_n hx hb dX11_takeLaw_54 rfl (lv_at hl 1 rfl) ?_
    refine iv_getr X ft_X11 hB a_h0 sh_11 0 (by decide) rfl k_fl_X11_12 dX11_takeLaw_55 (fun b g_b r_b e_b a_b => ?_)
    refine lv_aload_n hx hb dX11_takeLaw_58 rfl (lv_at hl 0 rfl) ?_
    refine iv_putr X ft_X5 hB a_b sh_5 13 (by decide) rfl rfl k_fl_X11_231 rfl t_q rfl rfl rfl dX11_takeLaw_59 (fun H locs hB => ?_)
    have hM := hM.stp (iv_Md.putr (b := q1) a_b (j := 13) (by decide)) (by decide)
    refine lv_goto (tgt := 73) hx hb dX11_takeLaw_62 (by decide) ?_
    refine W.widen (k := 7) (n := 896) (Nat.le_of_ble_eq_true rfl) (Nat.le_of_ble_eq_true rfl) ?_
    exact iv_vret X hr hlocks hB hM dX11_takeLaw_73
theorem dX11_text_0 : decode cX11_text 0 = .ok (.aload_n 0, 1) := by decide +kernel
theorem dX11_text_1 : decode cX11_text 1 = .ok (.getfield 172, 3) := by decide +kernel
theorem dX11_text_4 : decode cX11_text 4 = .ok (.istore_n 2, 1) := by decide +kernel
theorem dX11_text_5 : decode cX11_text 5 = .ok (.aload_n 0, 1) := by decide +kernel
theorem dX11_text_6 : decode cX11_text 6 = .ok (.iconst 0, 1) := by decide +kernel
theorem dX11_text_7 : decode cX11_text 7 = .ok (.putfield 172, 3) := by decide +kernel
theorem dX11_text_10 : decode cX11_text 10 = .ok (.iload_n 1, 1) := by decide +kernel
theorem dX11_text_11 : decode cX11_text 11 = .ok (.iconst 0, 1) := by decide +kernel
theorem dX11_text_12 : decode cX11_text 12 = .ok (.iconst 2, 1) := by decide +kernel
theorem dX11_text_13 : decode cX11_text 13 = .ok (.invokestatic 83, 3) := by decide +kernel
theorem dX11_text_16 : decode cX11_text 16 = .ok (.ifCond .ne 12, 3) := by decide +kernel
theorem dX11_text_19 : decode cX11_text 19 = .ok (.aload_n 0, 1) := by decide +kernel
theorem dX11_text_20 : decode cX11_text 20 = .ok (.getfield 33, 3) := by decide +kernel
theorem dX11_text_23 : decode cX11_text 23 = .ok (.invokevirtual 179, 3) := by decide +kernel
theorem dX11_text_26 : decode cX11_text 26 = .ok (.iconst (-1), 1) := by decide +kernel
theorem dX11_text_27 : decode cX11_text 27 = .ok (.ireturn, 1) := by decide +kernel
theorem dX11_text_28 : decode cX11_text 28 = .ok (.iload_n 1, 1) := by decide +kernel
theorem dX11_text_29 : decode cX11_text 29 = .ok (.ifCond .ne 25, 3) := by decide +kernel
theorem dX11_text_32 : decode cX11_text 32 = .ok (.aload_n 0, 1) := by decide +kernel
theorem dX11_text_33 : decode cX11_text 33 = .ok (.getfield 33, 3) := by decide +kernel
theorem dX11_text_36 : decode cX11_text 36 = .ok (.aload_n 0, 1) := by decide +kernel
theorem dX11_text_37 : decode cX11_text 37 = .ok (.getfield 26, 3) := by decide +kernel
theorem dX11_text_40 : decode cX11_text 40 = .ok (.iload_n 2, 1) := by decide +kernel
theorem dX11_text_41 : decode cX11_text 41 = .ok (.aload_n 0, 1) := by decide +kernel
theorem dX11_text_42 : decode cX11_text 42 = .ok (.getfield 12, 3) := by decide +kernel
theorem dX11_text_45 : decode cX11_text 45 = .ok (.getfield 90, 3) := by decide +kernel
theorem dX11_text_48 : decode cX11_text 48 = .ok (.invokevirtual 182, 3) := by decide +kernel
theorem dX11_text_51 : decode cX11_text 51 = .ok (.goto 25, 3) := by decide +kernel
theorem dX11_text_54 : decode cX11_text 54 = .ok (.aload_n 0, 1) := by decide +kernel
theorem dX11_text_55 : decode cX11_text 55 = .ok (.getfield 33, 3) := by decide +kernel
theorem dX11_text_58 : decode cX11_text 58 = .ok (.aload_n 0, 1) := by decide +kernel
theorem dX11_text_59 : decode cX11_text 59 = .ok (.getfield 26, 3) := by decide +kernel
theorem dX11_text_62 : decode cX11_text 62 = .ok (.iload_n 2, 1) := by decide +kernel
theorem dX11_text_63 : decode cX11_text 63 = .ok (.iload_n 1, 1) := by decide +kernel
theorem dX11_text_64 : decode cX11_text 64 = .ok (.iconst 1, 1) := by decide +kernel
theorem dX11_text_65 : decode cX11_text 65 = .ok (.if_icmp .ne 7, 3) := by decide +kernel
theorem dX11_text_68 : decode cX11_text 68 = .ok (.iconst 1, 1) := by decide +kernel
theorem dX11_text_69 : decode cX11_text 69 = .ok (.goto 4, 3) := by decide +kernel
theorem dX11_text_72 : decode cX11_text 72 = .ok (.iconst 0, 1) := by decide +kernel
theorem dX11_text_73 : decode cX11_text 73 = .ok (.invokevirtual 186, 3) := by decide +kernel
theorem dX11_text_76 : decode cX11_text 76 = .ok (.istore_n 3, 1) := by decide +kernel
theorem dX11_text_77 : decode cX11_text 77 = .ok (.iload_n 3, 1) := by decide +kernel
theorem dX11_text_78 : decode cX11_text 78 = .ok (.ifCond .ne 5, 3) := by decide +kernel
theorem dX11_text_81 : decode cX11_text 81 = .ok (.iconst (-1), 1) := by decide +kernel
theorem dX11_text_82 : decode cX11_text 82 = .ok (.ireturn, 1) := by decide +kernel
theorem dX11_text_83 : decode cX11_text 83 = .ok (.iload_n 1, 1) := by decide +kernel
theorem dX11_text_84 : decode cX11_text 84 = .ok (.ifCond .ne 10, 3) := by decide +kernel
theorem dX11_text_87 : decode cX11_text 87 = .ok (.aload_n 0, 1) := by decide +kernel
theorem dX11_text_88 : decode cX11_text 88 = .ok (.invokevirtual 190, 3) := by decide +kernel
theorem dX11_text_91 : decode cX11_text 91 = .ok (.goto 17, 3) := by decide +kernel
theorem dX11_text_94 : decode cX11_text 94 = .ok (.aload_n 0, 1) := by decide +kernel
theorem dX11_text_95 : decode cX11_text 95 = .ok (.iload_n 1, 1) := by decide +kernel
theorem dX11_text_96 : decode cX11_text 96 = .ok (.iconst 1, 1) := by decide +kernel
theorem dX11_text_97 : decode cX11_text 97 = .ok (.if_icmp .ne 7, 3) := by decide +kernel
theorem dX11_text_100 : decode cX11_text 100 = .ok (.iconst 1, 1) := by decide +kernel
theorem dX11_text_101 : decode cX11_text 101 = .ok (.goto 4, 3) := by decide +kernel
theorem dX11_text_104 : decode cX11_text 104 = .ok (.iconst 0, 1) := by decide +kernel
theorem dX11_text_105 : decode cX11_text 105 = .ok (.invokevirtual 193, 3) := by decide +kernel
theorem dX11_text_108 : decode cX11_text 108 = .ok (.aload_n 0, 1) := by decide +kernel
theorem dX11_text_109 : decode cX11_text 109 = .ok (.getfield 33, 3) := by decide +kernel
theorem dX11_text_112 : decode cX11_text 112 = .ok (.getfield 197, 3) := by decide +kernel
theorem dX11_text_115 : decode cX11_text 115 = .ok (.ireturn, 1) := by decide +kernel
set_option maxHeartbeats 4000000 in
set_option maxRecDepth 100000 in
theorem c_X11_text (l : Launch) (D : va_G) (tys : List (ClassId × FieldType)) (base : Nat) (G : iv_G) (h0 : Nat) (g_h0 : Nat → Int32) (r_h0 : Nat → Nat) (a_h0 : G h0 = some (11, g_h0, r_h0)) (x_0 : Int32) (i_x_0 : iv_R (-2147483648) 2147483647 x_0) (hty : iv_ty tys) : Met l yX11_text (Cond.code yX11_text cX11_text 4 (some .int) :: iv_W0) ({ frames := 36, cells := 7, slots := 896, locals := 836 }) (iv_Pc iv_sh D classes tys base G [.ref h0, .int x_0]) (iv_Qi iv_sh D classes tys base (fun v G' => iv_MdT [5, 6, 7, 11, 21, 34, 35, 36, 37, 38, 42, 43, 44] G G' ∧ iv_R (-1) 20 v ∧ (∀ (g' : Nat → Int32) (r' : Nat → Nat), G' h0 = some (11, g', r') → g' 5 = 0))) 7 896 (iv_A base) := by
  refine iv_head (by decide) (Nat.le_of_ble_eq_true rfl) ?_
  intro p e s m args below meth c ls X hr hlocks hname hB hl
  have X := X
  have hx := X.1.1
  have hb := X.1.2.1
  have hM : iv_MdT [5, 6, 7, 11, 21, 34, 35, 36, 37, 38, 42, 43, 44] G G := iv_MdT.rf
  have hl : lv_has ls 4 [(0, .ref h0), (1, .int x_0)] := hl
  refine lv_aload_n hx hb dX11_text_0 rfl (lv_at hl 0 rfl) ?_
  refine iv_geti X ft_X11 hB a_h0 sh_11 5 (by decide) rfl k_fl_X11_172 dX11_text_1 (fun x1 e_x1 i_x1 => ?_)
  refine lv_istore_n (lv' := [(2, .int x1), (0, .ref h0), (1, .int x_0)]) hx hb dX11_text_4 rfl hl (by decide) rfl (fun ls hl => ?_)
  refine lv_aload_n hx hb dX11_text_5 rfl (lv_at hl 1 rfl) ?_
  refine lv_iconst (v := 0) hx hb dX11_text_6 (by decide) ?_
  refine iv_puti X ft_X11 hB a_h0 sh_11 5 (by decide) rfl rfl k_fl_X11_172 rfl (q_0.wk (by decide)) rfl rfl dX11_text_7 (fun H locs hB => ?_)
  have hm := iv_MdT.put (x := 0) a_h0 (j := 5) (by decide)
  have h9 := iv_up_eq (G := G) (a := h0) (k := (11, upd g_h0 5 0, r_h0))
  generalize iv_up G h0 _ = G2 at hB hm h9
  have hM := hM.stp hm (by decide)
  generalize hgn_g3 : upd g_h0 _ _ = g3 at h9
  have a_h0 := h9
  have e9_g3 : 0 = g3 5 := by rw [← hgn_g3]; simp [upd]
  refine lv_iload_n hx hb dX11_text_10 rfl (lv_at hl 2 rfl) ?_
  refine lv_iconst (v := 0) hx hb dX11_text_11 (by decide) ?_
  refine lv_iconst (v := 2) hx hb dX11_text_12 (by decide) ?_
  refine iv_cSi X k_good k_mf_X11_isWithin k_st_X11_isWithin k_ml_X11_83 hB (As := [.int x_0, .int 0, .int 2]) (c_X11_isWithin l D tys base G2 x_0 i_x_0 0 (q_0.wk (by decide)) 2 (q_2.wk (by decide))) ⟨rfl, rfl⟩ ⟨Nat.le_of_ble_eq_true rfl, Nat.le_of_ble_eq_true rfl⟩ ⟨Nat.le_of_ble_eq_true rfl, Nat.le_of_ble_eq_true rfl⟩ rfl rfl hl.1 (Nat.le_of_ble_eq_true rfl) dX11_text_13 (fun x4 G9 H locs hq hB => ?_)
  obtain ⟨rfl, i_x4, hp5⟩ := hq
  have k6 : ¬ x4 = 0 → iv_R 0 2 x_0 := fun h => ⟨iv_max i_x_0.1 (Int.le_trans q_0.1 (hp5.1 h).1) (by decide), iv_min i_x_0.2 (Int.le_trans (hp5.1 h).2 q_2.2) (by decide)⟩
  refine lv_if_ne (tgt := 28) hx hb dX11_text_16 (by decide) (fun c7 => ?_) (fun c7 => ?_)
  · skip
    have i7_x4 : iv_R 1 1 x4 := iv_ne_lo c7 i_x4 q_0 (by decide)
    have i8_x_0 : iv_R 0 2 x_0 := ((i_x_0.cutLo (n := 0) (k6 c7).1).cutHi (n := 2) (k6 c7).2)
    refine lv_iload_n hx hb dX11_text_28 rfl (lv_at hl 2 rfl) ?_
    refine lv_if_ne (tgt := 54) hx hb dX11_text_29 (by decide) (fun c10 => ?_) (fun c10 => ?_)
    · skip
      have i10_x_0 : iv_R 1 2 x_0 := iv_ne_lo c10 i8_x_0 q_0 (by decide)
      refine lv_aload_n hx hb dX11_text_54 rfl (lv_at hl 1 rfl) ?_
      refine iv_getr X ft_X11 hB a_h0 sh_11 6 (by decide) rfl k_fl_X11_33 dX11_text_55 (fun b12 g_b12 r_b12 e_b12 a_b12 => ?_)
      refine lv_aload_n hx hb dX11_text_58 rfl (lv_at hl 1 rfl) ?_
      refine iv_getr X ft_X11 hB a_h0 sh_11 4 (by decide) rfl k_fl_X11_26 dX11_text_59 (fun b13 g_b13 r_b13 e_b13 a_b13 => ?_)
      refine lv_iload_n hx hb dX11_text_62 rfl (lv_at hl 0 rfl) ?_
      refine lv_iload_n hx hb dX11_text_63 rfl (lv_at hl 2 rfl) ?_
      refine lv_iconst (v := 1) hx hb dX11_text_64 (by decide) ?_
      refine lv_icmp_ne (tgt := 72) hx hb dX11_text_65 (by decide) (fun c14 => ?_) (fun c14 => ?_)
      · skip
        have i14_x_0 : iv_R 2 2 x_0 := iv_ne_lo c14 i10_x_0 q_1 (by decide)
        refine lv_iconst (v := 0) hx hb dX11_text_72 (by decide) ?_
        refine iv_cVi X k_good k_mf_X7_readLaw k_im_X7_readLaw k_sel_X7_readLaw k_ml_X11_186 ft_X7 hB a_b12 sh_7 (As := [.ref b13, .int x1, .int 0]) (e_X7_readLaw l D tys base G2 b12 g_b12 r_b12 a_b12 b13 g_b13 r_b13 a_b13 x1 i_x1 0 (q_0.wk (by decide))) ⟨rfl, rfl⟩ ⟨Nat.le_of_ble_eq_true rfl, Nat.le_of_ble_eq_true rfl⟩ ⟨Nat.le_of_ble_eq_true rfl, Nat.le_of_ble_eq_true rfl⟩ rfl rfl hl.1 (Nat.le_of_ble_eq_true rfl) dX11_text_73 (fun x16 G9 H locs hq hB => ?_)
        obtain ⟨hm, i_x16, xp17⟩ := hq
        obtain ⟨G18, hG9⟩ : ∃ g, g = G9 := ⟨_, rfl⟩
        rw [← hG9] at hm hB xp17
        have hM := hM.stp (iv_MdT.of0 hm) (by decide)
        have a_h0 := hm.at a_h0 (by decide)
        refine lv_istore_n (lv' := [(3, .int x16), (2, .int x1), (0, .ref h0), (1, .int x_0)]) hx hb dX11_text_76 rfl hl (by decide) rfl (fun ls hl => ?_)
        refine lv_iload_n hx hb dX11_text_77 rfl (lv_at hl 0 rfl) ?_
        refine lv_if_ne (tgt := 83) hx hb dX11_text_78 (by decide) (fun c19 => ?_) (fun c19 => ?_)
        · skip
          have i19_x16 : iv_R 1 1 x16 := iv_ne_lo c19 i_x16 q_0 (by decide)
          refine lv_iload_n hx hb dX11_text_83 rfl (lv_at hl 3 rfl) ?_
          refine lv_if_ne (tgt := 94) hx hb dX11_text_84 (by decide) (fun c21 => ?_) (fun c21 => ?_)
          · skip
            refine lv_aload_n hx hb dX11_text_94 rfl (lv_at hl 2 rfl) ?_
            refine lv_iload_n hx hb dX11_text_95 rfl (lv_at hl 3 rfl) ?_
            refine lv_iconst (v := 1) hx hb dX11_text_96 (by decide) ?_
            refine lv_icmp_ne (tgt := 104) hx hb dX11_text_97 (by decide) (fun c22 => ?_) (fun c22 => ?_)
            · skip
              refine lv_iconst (v := 0) hx hb dX11_text_104 (by decide) ?_
              refine iv_cVvA X k_good k_mf_X11_takeLaw k_im_X11_takeLaw k_sel_X11_takeLaw k_ml_X11_193 ft_X11 hB a_h0 sh_11 (As := [.int 0]) (c_X11_takeLaw l D tys base G18 h0 g3 r_h0 a_h0 0 (q_0.wk (by decide)) hty (by rw [← e_b12]; exact xp17 c19)) ⟨rfl, rfl⟩ ⟨Nat.le_of_ble_eq_true rfl, Nat.le_of_ble_eq_true rfl⟩ ⟨Nat.le_of_ble_eq_true rfl, Nat.le_of_ble_eq_true rfl⟩ rfl rfl hl.1 (Nat.le_of_ble_eq_true rfl) dX11_text_105 (fun G9 H locs hq hB => ?_)
              have hm := hq
              obtain ⟨G23, hG9⟩ : ∃ g, g = G9 := ⟨_, rfl⟩
              rw [← hG9] at hm hB
              have hM := hM.stp (iv_MdT.of hm) (by decide)
              have a_h0 := hm.at a_h0 (by decide)
              refine lv_aload_n hx hb dX11_text_108 rfl (lv_at hl 2 rfl) ?_
              refine iv_getr X ft_X11 hB a_h0 sh_11 6 (by decide) rfl k_fl_X11_33 dX11_text_109 (fun b24 g_b24 r_b24 e_b24 a_b24 => ?_)
              refine iv_geti X ft_X7 hB a_b24 sh_7 8 (by decide) rfl k_fl_X11_197 dX11_text_112 (fun x25 e_x25 i_x25 => ?_)
              refine W.widen (k := 7) (n := 896) (Nat.le_of_ble_eq_true rfl) (Nat.le_of_ble_eq_true rfl) ?_
              exact iv_iret X hr hlocks hB ⟨hM, (i_x25.wk (by decide)), fun g9 r9 h9 => by have h8 := a_h0.symm.trans h9; cases h8; exact e9_g3.symm⟩ dX11_text_115
            · skip
              exact absurd c22 c14
          · skip
            exact absurd c21 c10
        · skip
          have i25_x16 : iv_R 0 0 x16 := (i_x16.cutHi (n := 0) (iv_eq_r c19 q_0).2)
          refine lv_iconst (v := (-1)) hx hb dX11_text_81 (by decide) ?_
          refine W.widen (k := 7) (n := 896) (Nat.le_of_ble_eq_true rfl) (Nat.le_of_ble_eq_true rfl) ?_
          exact iv_iret X hr hlocks hB ⟨hM, (q_n1.wk (by decide)), fun g9 r9 h9 => by have h8 := a_h0.symm.trans h9; cases h8; exact e9_g3.symm⟩ dX11_text_82
      · skip
        have i26_x_0 : iv_R 1 1 x_0 := (i10_x_0.cutHi (n := 1) (iv_eq_r c14 q_1).2)
        refine lv_iconst (v := 1) hx hb dX11_text_68 (by decide) ?_
        refine lv_goto (tgt := 73) hx hb dX11_text_69 (by decide) ?_
        refine iv_cVi X k_good k_mf_X7_readLaw k_im_X7_readLaw k_sel_X7_readLaw k_ml_X11_186 ft_X7 hB a_b12 sh_7 (As := [.ref b13, .int x1, .int 1]) (e_X7_readLaw l D tys base G2 b12 g_b12 r_b12 a_b12 b13 g_b13 r_b13 a_b13 x1 i_x1 1 (q_1.wk (by decide))) ⟨rfl, rfl⟩ ⟨Nat.le_of_ble_eq_true rfl, Nat.le_of_ble_eq_true rfl⟩ ⟨Nat.le_of_ble_eq_true rfl, Nat.le_of_ble_eq_true rfl⟩ rfl rfl hl.1 (Nat.le_of_ble_eq_true rfl) dX11_text_73 (fun x28 G9 H locs hq hB => ?_)
        obtain ⟨hm, i_x28, xp29⟩ := hq
        obtain ⟨G30, hG9⟩ : ∃ g, g = G9 := ⟨_, rfl⟩
        rw [← hG9] at hm hB xp29
        have hM := hM.stp (iv_MdT.of0 hm) (by decide)
        have a_h0 := hm.at a_h0 (by decide)
        refine lv_istore_n (lv' := [(3, .int x28), (2, .int x1), (0, .ref h0), (1, .int x_0)]) hx hb dX11_text_76 rfl hl (by decide) rfl (fun ls hl => ?_)
        refine lv_iload_n hx hb dX11_text_77 rfl (lv_at hl 0 rfl) ?_
        refine lv_if_ne (tgt := 83) hx hb dX11_text_78 (by decide) (fun c31 => ?_) (fun c31 => ?_)
        · skip
          have i31_x28 : iv_R 1 1 x28 := iv_ne_lo c31 i_x28 q_0 (by decide)
          refine lv_iload_n hx hb dX11_text_83 rfl (lv_at hl 3 rfl) ?_
          refine lv_if_ne (tgt := 94) hx hb dX11_text_84 (by decide) (fun c33 => ?_) (fun c33 => ?_)
          · skip
            refine lv_aload_n hx hb dX11_text_94 rfl (lv_at hl 2 rfl) ?_
            refine lv_iload_n hx hb dX11_text_95 rfl (lv_at hl 3 rfl) ?_
            refine lv_iconst (v := 1) hx hb dX11_text_96 (by decide) ?_
            refine lv_icmp_ne (tgt := 104) hx hb dX11_text_97 (by decide) (fun c34 => ?_) (fun c34 => ?_)
            · skip
              exact (iv_ne_lo c34 i26_x_0 q_1 (a' := 2) (by decide)).no (by decide)
            · skip
              refine lv_iconst (v := 1) hx hb dX11_text_100 (by decide) ?_
              refine lv_goto (tgt := 105) hx hb dX11_text_101 (by decide) ?_
              refine iv_cVvA X k_good k_mf_X11_takeLaw k_im_X11_takeLaw k_sel_X11_takeLaw k_ml_X11_193 ft_X11 hB a_h0 sh_11 (As := [.int 1]) (c_X11_takeLaw l D tys base G30 h0 g3 r_h0 a_h0 1 (q_1.wk (by decide)) hty (by rw [← e_b12]; exact xp29 c31)) ⟨rfl, rfl⟩ ⟨Nat.le_of_ble_eq_true rfl, Nat.le_of_ble_eq_true rfl⟩ ⟨Nat.le_of_ble_eq_true rfl, Nat.le_of_ble_eq_true rfl⟩ rfl rfl hl.1 (Nat.le_of_ble_eq_true rfl) dX11_text_105 (fun G9 H locs hq hB => ?_)
              have hm := hq
              obtain ⟨G35, hG9⟩ : ∃ g, g = G9 := ⟨_, rfl⟩
              rw [← hG9] at hm hB
              have hM := hM.stp (iv_MdT.of hm) (by decide)
              have a_h0 := hm.at a_h0 (by decide)
              refine lv_aload_n hx hb dX11_text_108 rfl (lv_at hl 2 rfl) ?_
              refine iv_getr X ft_X11 hB a_h0 sh_11 6 (by decide) rfl k_fl_X11_33 dX11_text_109 (fun b36 g_b36 r_b36 e_b36 a_b36 => ?_)
              refine iv_geti X ft_X7 hB a_b36 sh_7 8 (by decide) rfl k_fl_X11_197 dX11_text_112 (fun x37 e_x37 i_x37 => ?_)
              refine W.widen (k := 7) (n := 896) (Nat.le_of_ble_eq_true rfl) (Nat.le_of_ble_eq_true rfl) ?_
              exact iv_iret X hr hlocks hB ⟨hM, (i_x37.wk (by decide)), fun g9 r9 h9 => by have h8 := a_h0.symm.trans h9; cases h8; exact e9_g3.symm⟩ dX11_text_115
          · skip
            exact absurd c33 c10
        · skip
          have i37_x28 : iv_R 0 0 x28 := (i_x28.cutHi (n := 0) (iv_eq_r c31 q_0).2)
          refine lv_iconst (v := (-1)) hx hb dX11_text_81 (by decide) ?_
          refine W.widen (k := 7) (n := 896) (Nat.le_of_ble_eq_true rfl) (Nat.le_of_ble_eq_true rfl) ?_
          exact iv_iret X hr hlocks hB ⟨hM, (q_n1.wk (by decide)), fun g9 r9 h9 => by have h8 := a_h0.symm.trans h9; cases h8; exact e9_g3.symm⟩ dX11_text_82
    · skip
      have i38_x_0 : iv_R 0 0 x_0 := (i8_x_0.cutHi (n := 0) (iv_eq_r c10 q_0).2)
      refine lv_aload_n hx hb dX11_text_32 rfl (lv_at hl 1 rfl) ?_
      refine iv_getr X ft_X11 hB a_h0 sh_11 6 (by decide) rfl k_fl_X11_33 dX11_text_33 (fun b40 g_b40 r_b40 e_b40 a_b40 => ?_)
      refine lv_aload_n hx hb dX11_text_36 rfl (lv_at hl 1 rfl) ?_
      refine iv_getr X ft_X11 hB a_h0 sh_11 4 (by decide) rfl k_fl_X11_26 dX11_text_37 (fun b41 g_b41 r_b41 e_b41 a_b41 => ?_)
      refine lv_iload_n hx hb dX11_text_40 rfl (lv_at hl 0 rfl) ?_
      refine lv_aload_n hx hb dX11_text_41 rfl (lv_at hl 1 rfl) ?_
      refine iv_getr X ft_X11 hB a_h0 sh_11 0 (by decide) rfl k_fl_X11_12 dX11_text_42 (fun b42 g_b42 r_b42 e_b42 a_b42 => ?_)
      refine iv_geti X ft_X5 hB a_b42 sh_5 1 (by decide) rfl k_fl_X11_90 dX11_text_45 (fun x43 e_x43 i_x43 => ?_)
      refine iv_cVi X k_good k_mf_X7_readHours k_im_X7_readHours k_sel_X7_readHours k_ml_X11_182 ft_X7 hB a_b40 sh_7 (As := [.ref b41, .int x1, .int x43]) (c_X7_readHours l D tys base G2 b40 g_b40 r_b40 a_b40 b41 g_b41 r_b41 a_b41 x1 i_x1 x43 i_x43) ⟨rfl, rfl⟩ ⟨Nat.le_of_ble_eq_true rfl, Nat.le_of_ble_eq_true rfl⟩ ⟨Nat.le_of_ble_eq_true rfl, Nat.le_of_ble_eq_true rfl⟩ rfl rfl hl.1 (Nat.le_of_ble_eq_true rfl) dX11_text_48 (fun x44 G9 H locs hq hB => ?_)
      obtain ⟨hm, i_x44⟩ := hq
      obtain ⟨G45, hG9⟩ : ∃ g, g = G9 := ⟨_, rfl⟩
      rw [← hG9] at hm hB
      have hM := hM.stp (iv_MdT.of0 hm) (by decide)
      have a_h0 := hm.at a_h0 (by decide)
      refine lv_goto (tgt := 76) hx hb dX11_text_51 (by decide) ?_
      refine lv_istore_n (lv' := [(3, .int x44), (2, .int x1), (0, .ref h0), (1, .int x_0)]) hx hb dX11_text_76 rfl hl (by decide) rfl (fun ls hl => ?_)
      refine lv_iload_n hx hb dX11_text_77 rfl (lv_at hl 0 rfl) ?_
      refine lv_if_ne (tgt := 83) hx hb dX11_text_78 (by decide) (fun c46 => ?_) (fun c46 => ?_)
      · skip
        have i46_x44 : iv_R 1 1 x44 := iv_ne_lo c46 i_x44 q_0 (by decide)
        refine lv_iload_n hx hb dX11_text_83 rfl (lv_at hl 3 rfl) ?_
        refine lv_if_ne (tgt := 94) hx hb dX11_text_84 (by decide) (fun c48 => ?_) (fun c48 => ?_)
        · skip
          exact (iv_ne_lo c48 i38_x_0 q_0 (a' := 1) (by decide)).no (by decide)
        · skip
          refine lv_aload_n hx hb dX11_text_87 rfl (lv_at hl 2 rfl) ?_
          refine iv_cVv X k_good k_mf_X11_takeHours k_im_X11_takeHours k_sel_X11_takeHours k_ml_X11_190 ft_X11 hB a_h0 sh_11 (As := []) (c_X11_takeHours l D tys base G45 h0 g3 r_h0 a_h0) ⟨rfl, rfl⟩ ⟨Nat.le_of_ble_eq_true rfl, Nat.le_of_ble_eq_true rfl⟩ ⟨Nat.le_of_ble_eq_true rfl, Nat.le_of_ble_eq_true rfl⟩ rfl rfl hl.1 (Nat.le_of_ble_eq_true rfl) dX11_text_88 (fun G9 H locs hq hB => ?_)
          have hm := hq
          obtain ⟨G49, hG9⟩ : ∃ g, g = G9 := ⟨_, rfl⟩
          rw [← hG9] at hm hB
          have hM := hM.stp (iv_MdT.of hm) (by decide)
          have a_h0 := hm.at a_h0 (by decide)
          refine lv_goto (tgt := 108) hx hb dX11_text_91 (by decide) ?_
          refine lv_aload_n hx hb dX11_text_108 rfl (lv_at hl 2 rfl) ?_
          refine iv_getr X ft_X11 hB a_h0 sh_11 6 (by decide) rfl k_fl_X11_33 dX11_text_109 (fun b50 g_b50 r_b50 e_b50 a_b50 => ?_)
          refine iv_geti X ft_X7 hB a_b50 sh_7 8 (by decide) rfl k_fl_X11_197 dX11_text_112 (fun x51 e_x51 i_x51 => ?_)
          refine W.widen (k := 7) (n := 896) (Nat.le_of_ble_eq_true rfl) (Nat.le_of_ble_eq_true rfl) ?_
          exact iv_iret X hr hlocks hB ⟨hM, (i_x51.wk (by decide)), fun g9 r9 h9 => by have h8 := a_h0.symm.trans h9; cases h8; exact e9_g3.symm⟩ dX11_text_115
      · skip
        have i51_x44 : iv_R 0 0 x44 := (i_x44.cutHi (n := 0) (iv_eq_r c46 q_0).2)
        refine lv_iconst (v := (-1)) hx hb dX11_text_81 (by decide) ?_
        refine W.widen (k := 7) (n := 896) (Nat.le_of_ble_eq_true rfl) (Nat.le_of_ble_eq_true rfl) ?_
        exact iv_iret X hr hlocks hB ⟨hM, (q_n1.wk (by decide)), fun g9 r9 h9 => by have h8 := a_h0.symm.trans h9; cases h8; exact e9_g3.symm⟩ dX11_text_82
  · skip
    have i52_x4 : iv_R 0 0 x4 := (i_x4.cutHi (n := 0) (iv_eq_r c7 q_0).2)
    refine lv_aload_n hx hb dX11_text_19 rfl (lv_at hl 1 rfl) ?_
    refine iv_getr X ft_X11 hB a_h0 sh_11 6 (by decide) rfl k_fl_X11_33 dX11_text_20 (fun b54 g_b54 r_b54 e_b54 a_b54 => ?_)
    refine iv_cVv X k_good k_mf_X7_forgetFault k_im_X7_forgetFault k_sel_X7_forgetFault k_ml_X11_179 ft_X7 hB a_b54 sh_7 (As := []) (c_X7_forgetFault l D tys base G2 b54 g_b54 r_b54 a_b54) ⟨rfl, rfl⟩ ⟨Nat.le_of_ble_eq_true rfl, Nat.le_of_ble_eq_true rfl⟩ ⟨Nat.le_of_ble_eq_true rfl, Nat.le_of_ble_eq_true rfl⟩ rfl rfl hl.1 (Nat.le_of_ble_eq_true rfl) dX11_text_23 (fun G9 H locs hq hB => ?_)
    have hm := hq
    obtain ⟨G55, hG9⟩ : ∃ g, g = G9 := ⟨_, rfl⟩
    rw [← hG9] at hm hB
    have hM := hM.stp (iv_MdT.of hm) (by decide)
    have a_h0 := hm.at a_h0 (by decide)
    refine lv_iconst (v := (-1)) hx hb dX11_text_26 (by decide) ?_
    refine W.widen (k := 7) (n := 896) (Nat.le_of_ble_eq_true rfl) (Nat.le_of_ble_eq_true rfl) ?_
    exact iv_iret X hr hlocks hB ⟨hM, (q_n1.wk (by decide)), fun g9 r9 h9 => by have h8 := a_h0.symm.trans h9; cases h8; exact e9_g3.symm⟩ dX11_text_27
