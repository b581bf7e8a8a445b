/-! the JDK's strings: the claim's own constants, their lengths and letters -/
theorem iv_lens : ∀ i, i < 23 → iv_len.getD i 0 < 256 := by decide
theorem iv_narC {v : Int32} (h : iv_R 0 65535 v) : narrow .char (.int v) = .int v := by
  have h1 := h.1
  have h2 := h.2
  have e1 : (v.toUInt32 % 65536).toInt32 = v := by
    apply Int32.toBitVec_inj.mp
    show v.toBitVec % 65536#32 = v.toBitVec
    apply BitVec.eq_of_toNat_eq
    rw [BitVec.toNat_umod]
    have := (iv_nn (k := 16) h (by decide) (by decide)).1
    exact Nat.mod_eq_of_lt this
  show Value.int ((v.toUInt32 % 65536).toInt32) = _
  rw [e1]
theorem iv_shr0 (x : Int32) : x >>> ((0 : Int32) &&& 31) = x := by
  have : ((0 : Int32) &&& 31) = 0 := by decide
  rw [this]
  exact Int32.shiftRight_zero
theorem iv_minU {x y z : Int32} {n : Int} (e : z = if y < x then y else x) (h : y.toInt ≤ n) : z.toInt ≤ n := by
  rw [e]
  split
  · exact h
  · rename_i q
    have := Int32.le_iff_toInt_le.mp (Int32.not_lt.mp q)
    omega
section IVS
variable {p : Program} {l : Launch} {e : Env} {R : Room} {s : State} {m : MethodId} {args : Array Value} {below : List Frame} {meth : Method} {c : Code} {H : Heap} {locs : List Loc} {cells slots : Nat} {Q : State → Prop}
variable {cc : ByteArray} {nL pc : Nat} {ls : Array Slot} {rest : List Value} {D : va_G} {cl : List vw_C} {tys : List (ClassId × FieldType)} {base : Nat} {G : iv_G} {a b : Nat} {W0 : List Cond} {own : String} {sh : Nat → iv_Sh} {i : Nat}
theorem iv_sldc (X : iv_X p m c cc nL s args W0 own D cl tys base) {k : Nat} {tx : String} (hq : iv_str[i]? = some (own, k, tx)) (hdg : decode cc pc = .ok (.ldc k, 2))
    (kk : W p l e R s m args below meth c H locs cells slots Q (F0 m (pc + 2) ls (.ref (D.2 100 i) :: rest))) : W p l e R s m args below meth c H locs cells slots Q (F0 m pc ls rest) :=
  va_ldcS X.1.1 X.1.2.1 X.1.2.2.2.1 (X.2.2.2.2.1 i _ hq) hdg kk
theorem iv_sval (X : iv_X p m c cc nL s args W0 own D cl tys base) (hi : i < 23) (hB : iv_B sh D cl tys base G s.heap H locs) {index : Nat} (hl : Cond.fieldLink own index "java/lang/String" "value" "[B" ∈ W0) (hdg : decode cc pc = .ok (.getfield index, 3))
    (kk : W p l e R s m args below meth c H locs cells slots Q (F0 m (pc + 3) ls (.ref (D.2 101 i) :: rest))) : W p l e R s m args below meth c H locs cells slots Q (F0 m pc ls (.ref (D.2 100 i) :: rest)) :=
  vk_getf X.1.1 X.1.2.1 (X.2.2.2.1.1 i hi).2.2.1 hB.2.1 X.1.2.2.2.1 (X.1.2.2.2.2 _ hl) (fun _ h => h) hdg kk
theorem iv_scod (X : iv_X p m c cc nL s args W0 own D cl tys base) (hi : i < 23) (hB : iv_B sh D cl tys base G s.heap H locs) {index : Nat} (hl : Cond.fieldLink own index "java/lang/String" "coder" "B" ∈ W0) (hdg : decode cc pc = .ok (.getfield index, 3))
    (kk : W p l e R s m args below meth c H locs cells slots Q (F0 m (pc + 3) ls (.int 0 :: rest))) : W p l e R s m args below meth c H locs cells slots Q (F0 m pc ls (.ref (D.2 100 i) :: rest)) :=
  vk_getf X.1.1 X.1.2.1 (X.2.2.2.1.1 i hi).2.1 hB.2.1 X.1.2.2.2.1 (X.1.2.2.2.2 _ hl) (fun _ h => h) hdg kk
theorem iv_gets (X : iv_X p m c cc nL s args W0 own D cl tys base) (hB : iv_B sh D cl tys base G s.heap H locs) {index : Nat} (hl : Cond.fieldLink own index "java/lang/String" "COMPACT_STRINGS" "Z" ∈ W0) (hdg : decode cc pc = .ok (.getstatic index, 3))
    (kk : W p l e R s m args below meth c H locs cells slots Q (F0 m (pc + 3) ls (.int 1 :: rest))) : W p l e R s m args below meth c H locs cells slots Q (F0 m pc ls rest) :=
  va_gets X.1.1 X.1.2.1 X.2.2.2.2.2.1 hB.2.1 X.1.2.2.2.1 (X.1.2.2.2.2 _ hl) (fun _ h => h) hdg kk
theorem iv_getF (X : iv_X p m c cc nL s args W0 own D cl tys base) (hB : iv_B sh D cl tys base G s.heap H locs) {index : Nat} (hl : Cond.fieldLink own index "jdk/internal/util/Preconditions" "SIOOBE_FORMATTER" "Ljava/util/function/BiFunction;" ∈ W0) (hdg : decode cc pc = .ok (.getstatic index, 3))
    (kk : W p l e R s m args below meth c H locs cells slots Q (F0 m (pc + 3) ls (iv_fv D :: rest))) : W p l e R s m args below meth c H locs cells slots Q (F0 m pc ls rest) :=
  va_gets X.1.1 X.1.2.1 X.2.2.2.2.2.2.1 hB.2.1 X.1.2.2.2.1 (X.1.2.2.2.2 _ hl) (fun _ h => h) hdg kk
theorem iv_blen (X : iv_X p m c cc nL s args W0 own D cl tys base) (hi : i < 23) (hB : iv_B sh D cl tys base G s.heap H locs) (hdg : decode cc pc = .ok (.arraylength, 1))
    (kk : ∀ x : Int32, x.toInt = ((iv_len.getD i 0 : Nat) : Int) → iv_R 0 255 x → W p l e R s m args below meth c H locs cells slots Q (F0 m (pc + 1) ls (.int x :: rest))) : W p l e R s m args below meth c H locs cells slots Q (F0 m pc ls (.ref (D.2 101 i) :: rest)) := by
  have h := iv_lens i hi
  have e1 : (nI (iv_len.getD i 0)).toInt = ((iv_len.getD i 0 : Nat) : Int) := nI_toInt (by omega)
  exact va_tlen X.1.1 X.1.2.1 (X.2.2.2.1.1 i hi).2.2.2 hB.2.1 (v := nI (iv_len.getD i 0)) rfl hdg (kk _ e1 ⟨by omega, by omega⟩)
theorem iv_bald (X : iv_X p m c cc nL s args W0 own D cl tys base) (hi : i < 23) (hB : iv_B sh D cl tys base G s.heap H locs) {k : Int32} (hin : vp_in k (iv_len.getD i 0)) (hdg : decode cc pc = .ok (.baload, 1))
    (kk : ∀ x : Int32, W p l e R s m args below meth c H locs cells slots Q (F0 m (pc + 1) ls (.int x :: rest))) : W p l e R s m args below meth c H locs cells slots Q (F0 m pc ls (.int k :: .ref (D.2 101 i) :: rest)) :=
  va_tb X.1.1 X.1.2.1 (X.2.2.2.1.1 i hi).2.2.2 hB.2.1 hin (v := .int ((iv_byt.getD i []).getD k.toNatClampNeg 0)) rfl hdg (kk _)
theorem iv_i2c (hx : p.tables.exec = Jvm.exec) (hb : c.code = cc) {x : Int32} {a b : Int} (h : iv_R a b x) (e' : 0 ≤ a ∧ b ≤ 65535) (hdg : decode cc pc = .ok (.i2c, 1))
    (k : W p l e R s m args below meth c H locs cells slots Q (F0 m (pc + 1) ls (.int x :: rest))) : W p l e R s m args below meth c H locs cells slots Q (F0 m pc ls (.int x :: rest)) :=
  lv_i2c hx hb hdg (by
    have := iv_narC (h.wk (a' := 0) (b' := 65535) ⟨e'.1, e'.2⟩)
    exact Value.int.inj this) k
theorem iv_nret {post : Int32 → iv_G → Prop} {v : Int32} {ty : FieldType} (X : iv_X p m c cc nL s args W0 own D cl tys base) (hr : meth.sig.returnType = some ty) (hn : narrow ty (.int v) = .int v) (hlocks : meth.locks = false) (hB : iv_B sh D cl tys base G s.heap H locs) (hq : post v G) (hdg : decode cc pc = .ok (.ireturn, 1)) : W p l e R s m args below meth c H locs cells slots (MQ below (iv_Qi sh D cl tys base post) args s cells slots (iv_A base)) (F0 m pc ls [.int v]) :=
  W.zret X.1.1 X.1.2.1 hr hn (fun t ht hW => ⟨⟨v, G, rfl, hq, by rw [iv_W, ht]; exact ⟨hB.1, va_K.moved hW.alike X.2.1⟩⟩, hB.2.1.F ht⟩) hB.2.1.2.2 hdg hlocks
theorem iv_cKi (X : iv_X p m c cc nL s args W0 own D cl tys base) (hW0 : W0.all goodWord = true) {y : MethodName} {bytes : ByteArray} {maxL index n : Nat} {ret : Option FieldType} {rm : Room} (M : iv_MF W0 y bytes maxL ret n) (hinst : Cond.instanceMethod y ∈ W0) (hsel : Cond.selects y.cls y y ∈ W0) (hl : Cond.methodLink own index y ∈ W0) (hi : i < 23) (hyc : y.cls = "java/lang/String") (hB : iv_B sh D cl tys base G s.heap H locs)
    {As : List Value} {post : Int32 → iv_G → Prop} (hM : Met l y (Cond.code y bytes maxL ret :: W0) rm (iv_Pc sh D cl tys base G (.ref (D.2 100 i) :: As)) (iv_Qi sh D cl tys base post) 0 0 (iv_A base)) (hr0 : rm.cells = 0 ∧ rm.slots = 0) (hR : rm.frames + 1 ≤ R.frames ∧ 8 + (maxL + 11) + rm.locals ≤ R.locals) (hRc : cells ≤ R.cells ∧ slots ≤ R.slots) {st0 : List Value} (hst : st0 = As.reverse ++ .ref (D.2 100 i) :: rest) (hn : As.length = n) (hsize : ls.size = nL) (hcat : (rest.map fun v => v.category).sum ≤ 8) (hdg : decode cc pc = .ok (.invokevirtual index, 3))
    (kk : ∀ (x : Int32) (G1 : iv_G) (H1 : Heap) (locs1 : List Loc), post x G1 → iv_B sh D cl tys base G1 s.heap H1 locs1 → W p l e R s m args below meth c H1 locs1 cells slots Q (F0 m (pc + 3) ls (.int x :: rest))) : W p l e R s m args below meth c H locs cells slots Q (F0 m pc ls st0) := by
  obtain ⟨cell, o1, o2, o3⟩ := vk_recv X.2.2.2.1 hi hB.2.1
  refine va_calli (va_runV (As := As) (rest := rest) (C := y.cls) X.1 hM ⟨iv_callB X hW0 M hl hr0 hR, X.1.2.2.2.2 _ hinst, X.1.2.2.2.2 _ hsel⟩ ⟨iv_Pc_blind, ⟨cell, o1, o2, by rw [hyc]; exact o3⟩, fun U hU hW => ⟨rfl, by rw [hU]; exact hB.1, ⟨va_K.moved hW.alike X.2.1, iv_N.warm hW hB.2.1 hU X.2.2⟩, by rw [hU]; exact Nat.le_trans hB.2.2 hB.2.1.1⟩⟩ rfl hn hsize hst (lv_room hcat) hdg hRc) hB.2.1 (fun _ _ h => h) (fun _ h => h) (fun x u t H1 locs1 ht hvm hw hb1 hz1 hk1 hS => ?_)
  exact kk x u H1 locs1 hw ⟨by rw [← ht]; exact hb1.1, hS, hB.2.2⟩
theorem iv_cSv (X : iv_X p m c cc nL s args W0 own D cl tys base) (hW0 : W0.all goodWord = true) {y : MethodName} {bytes : ByteArray} {maxL index n : Nat} {ret : Option FieldType} {rm : Room} (M : iv_MF W0 y bytes maxL ret n) (hstat : Cond.static y ∈ W0) (hl : Cond.methodLink own index y ∈ W0) (hB : iv_B sh D cl tys base G s.heap H locs)
    {As : List Value} {post : iv_G → Prop} (hM : Met l y (Cond.code y bytes maxL ret :: W0) rm (iv_Pc sh D cl tys base G As) (iv_Qv sh D cl tys base post) 0 0 (iv_A base)) (hr0 : rm.cells = 0 ∧ rm.slots = 0) (hR : rm.frames + 1 ≤ R.frames ∧ 8 + (maxL + 11) + rm.locals ≤ R.locals) (hRc : cells ≤ R.cells ∧ slots ≤ R.slots) {st0 : List Value} (hst : st0 = As.reverse ++ rest) (hn : As.length = n) (hsize : ls.size = nL) (hcat : (rest.map fun v => v.category).sum ≤ 8) (hdg : decode cc pc = .ok (.invokestatic index, 3))
    (kk : ∀ (G1 : iv_G) (H1 : Heap) (locs1 : List Loc), post G1 → iv_B sh D cl tys base G1 s.heap H1 locs1 → W p l e R s m args below meth c H1 locs1 cells slots Q (F0 m (pc + 3) ls rest)) : W p l e R s m args below meth c H locs cells slots Q (F0 m pc ls st0) := by
  refine va_callv (va_runS (As := As) (rest := rest) X.1 hM ⟨iv_callB X hW0 M hl hr0 hR, X.1.2.2.2.2 _ hstat⟩ ⟨iv_Pc_blind, fun U hU hW => ⟨rfl, by rw [hU]; exact hB.1, ⟨va_K.moved hW.alike X.2.1, iv_N.warm hW hB.2.1 hU X.2.2⟩, by rw [hU]; exact Nat.le_trans hB.2.2 hB.2.1.1⟩⟩ rfl hn hsize hst (lv_room hcat) hdg hRc) hB.2.1 (fun _ _ h => h) (fun _ h => h) (fun u t H1 locs1 ht hvm hw hb1 hz1 hk1 hS => ?_)
  exact kk u H1 locs1 hw ⟨by rw [← ht]; exact hb1.1, hS, hB.2.2⟩
theorem iv_ishr0 (hx : p.tables.exec = Jvm.exec) (hb : c.code = cc) {x y : Int32} (h : iv_R 0 0 y) (hdg : decode cc pc = .ok (.ishr, 1))
    (k : W p l e R s m args below meth c H locs cells slots Q (F0 m (pc + 1) ls (.int x :: rest))) : W p l e R s m args below meth c H locs cells slots Q (F0 m pc ls (.int y :: .int x :: rest)) := by
  refine lv_ishr hx hb hdg ?_
  rw [iv_z h, iv_shr0]
  exact k
end IVS
