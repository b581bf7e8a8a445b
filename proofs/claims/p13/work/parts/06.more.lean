/-! more rows: the JDK's small methods, remainders, masks -/
theorem k_mm_X0_44 : Cond.methodLink RX0 44 Lib.Math.min.name ∈ iv_W0 := k_c3 (List.mem_of_getElem? (i := 119) rfl) rfl
theorem k_mm_X0_52 : Cond.methodLink RX0 52 Lib.Math.max.name ∈ iv_W0 := k_c3 (List.mem_of_getElem? (i := 120) rfl) rfl
theorem k_mm_X2_66 : Cond.methodLink RX2 66 Lib.Math.min.name ∈ iv_W0 := k_c3 (List.mem_of_getElem? (i := 109) rfl) rfl
theorem k_mm_X2_72 : Cond.methodLink RX2 72 Lib.Math.max.name ∈ iv_W0 := k_c3 (List.mem_of_getElem? (i := 110) rfl) rfl
theorem k_mm_X4_47 : Cond.methodLink RX4 47 Lib.Math.max.name ∈ iv_W0 := k_c5 (List.mem_of_getElem? (i := 42) rfl) rfl
theorem k_mm_X5_112 : Cond.methodLink RX5 112 Lib.Math.abs.name ∈ iv_W0 := k_c3 (List.mem_of_getElem? (i := 81) rfl) rfl
theorem k_mm_X6_23 : Cond.methodLink RX6 23 Lib.Math.min.name ∈ iv_W0 := k_c3 (List.mem_of_getElem? (i := 22) rfl) rfl
theorem k_mm_X8_38 : Cond.methodLink RX8 38 Lib.Math.min.name ∈ iv_W0 := k_c5 (List.mem_of_getElem? (i := 237) rfl) rfl
theorem k_mm_X9_69 : Cond.methodLink RX9 69 Lib.Math.abs.name ∈ iv_W0 := k_c5 (List.mem_of_getElem? (i := 102) rfl) rfl
theorem k_mm_X11_300 : Cond.methodLink RX11 300 Lib.Math.max.name ∈ iv_W0 := k_c5 (List.mem_of_getElem? (i := 12) rfl) rfl
theorem k_mm_X11_362 : Cond.methodLink RX11 362 Lib.Math.min.name ∈ iv_W0 := k_c5 (List.mem_of_getElem? (i := 208) rfl) rfl
theorem k_mm_J1_38 : Cond.methodLink RJ1 38 Lib.Math.min.name ∈ iv_W0 := k_c4 (List.mem_of_getElem? (i := 34) rfl) rfl
theorem k_mm_J1_92 : Cond.methodLink RJ1 92 Lib.Math.max.name ∈ iv_W0 := k_c4 (List.mem_of_getElem? (i := 33) rfl) rfl
theorem k_mm_J2_183 : Cond.methodLink RJ2 183 Lib.Math.min.name ∈ iv_W0 := k_c4 (List.mem_of_getElem? (i := 42) rfl) rfl
theorem k_mm_J2_224 : Cond.methodLink RJ2 224 Lib.Math.max.name ∈ iv_W0 := k_c4 (List.mem_of_getElem? (i := 41) rfl) rfl
theorem k_mm_J7_304 : Cond.methodLink RJ7 304 Lib.Math.min.name ∈ iv_W0 := k_c1 (List.mem_of_getElem? (i := 78) rfl) rfl
theorem k_mst_max : Cond.static Lib.Math.max.name ∈ iv_W0 := k_c3 (List.mem_of_getElem? (i := 111) rfl) rfl
set_option maxRecDepth 20000 in
theorem k_mcd_max : Cond.code Lib.Math.max.name Lib.Math.max.code 2 (some .int) ∈ iv_W0 := k_c3 (List.mem_of_getElem? (i := 112) rfl) rfl
theorem k_mst_min : Cond.static Lib.Math.min.name ∈ iv_W0 := k_c1 (List.mem_of_getElem? (i := 79) rfl) rfl
set_option maxRecDepth 20000 in
theorem k_mcd_min : Cond.code Lib.Math.min.name Lib.Math.min.code 2 (some .int) ∈ iv_W0 := k_c1 (List.mem_of_getElem? (i := 80) rfl) rfl
theorem k_mst_abs : Cond.static Lib.Math.abs.name ∈ iv_W0 := k_c3 (List.mem_of_getElem? (i := 82) rfl) rfl
set_option maxRecDepth 20000 in
theorem k_mcd_abs : Cond.code Lib.Math.abs.name Lib.Math.abs.code 1 (some .int) ∈ iv_W0 := k_c3 (List.mem_of_getElem? (i := 83) rfl) rfl
theorem k_min_Math : Cond.initialized "java/lang/Math" ∈ iv_W0 := k_c1 (List.mem_of_getElem? (i := 6) rfl) rfl
theorem iv_max {a b n x : Int} (h1 : a ≤ x) (h2 : b ≤ x) (e : n ≤ a ∨ n ≤ b) : n ≤ x := by omega
theorem iv_min {a b n x : Int} (h1 : x ≤ a) (h2 : x ≤ b) (e : a ≤ n ∨ b ≤ n) : x ≤ n := by omega
theorem iv_nz {a b : Int} {x : Int32} (h : iv_R a b x) (e : 0 < a ∨ b < 0) : ¬ x = 0 := by
  intro q
  subst q
  have h1 := h.1
  have h2 := h.2
  rw [Int32.toInt_zero] at h1 h2
  omega
theorem iv_fit {v : Int32} (h : iv_R 0 1 v) : fits .boolean (.int v) = true := by
  have h1 : v.toInt = 0 ∨ v.toInt = 1 := by have := h.1; have := h.2; omega
  rcases h1 with h1 | h1
  · have : v = 0 := Int32.toInt_inj.mp h1
    subst this
    rfl
  · have : v = 1 := Int32.toInt_inj.mp h1
    subst this
    rfl
theorem iv_z {x : Int32} (h : iv_R 0 0 x) : x = 0 := Int32.toInt_inj.mp (by rw [Int32.toInt_zero]; have := h.1; have := h.2; omega)
theorem iv_andN (x y : Int32) (hy : 0 ≤ y.toInt) : 0 ≤ (x &&& y).toInt ∧ (x &&& y).toInt ≤ y.toInt := by
  have e1 : (x &&& y).toInt = (x.toBitVec &&& y.toBitVec).toInt := rfl
  have hy : 0 ≤ y.toBitVec.toInt := hy
  have hn := BitVec.toNat_and x.toBitVec y.toBitVec
  have hle : (x.toBitVec &&& y.toBitVec).toNat ≤ y.toBitVec.toNat := by rw [hn]; exact Nat.and_le_right
  have h1 := y.toBitVec.isLt
  have c1 := BitVec.toInt_eq_toNat_cond y.toBitVec
  have c2 := BitVec.toInt_eq_toNat_cond (x.toBitVec &&& y.toBitVec)
  show 0 ≤ (x.toBitVec &&& y.toBitVec).toInt ∧ (x.toBitVec &&& y.toBitVec).toInt ≤ y.toBitVec.toInt
  split at c1 <;> split at c2 <;> omega
theorem iv_nn {a b : Int} {x : Int32} (h : iv_R a b x) (e : 0 ≤ a) {k : Nat} (hk : b < 2 ^ k) : x.toBitVec.toNat < 2 ^ k ∧ x.toBitVec.toNat = x.toInt.toNat := by
  have h1 := h.1
  have h2 := h.2
  have c1 := BitVec.toInt_eq_toNat_cond x.toBitVec
  have e1 : x.toInt = x.toBitVec.toInt := rfl
  have h3 := x.toBitVec.isLt
  have hk' : (b : Int) < ((2 ^ k : Nat) : Int) := by rw [Int.natCast_pow]; exact hk
  generalize (2 ^ k : Nat) = K at hk' ⊢
  split at c1 <;> constructor <;> omega
theorem iv_bvR {x : Int32} {k : Nat} (hk : k ≤ 31) (h : x.toBitVec.toNat < 2 ^ k) {hi : Int} (e : (2 : Int) ^ k - 1 ≤ hi) : iv_R 0 hi x := by
  have c1 := BitVec.toInt_eq_toNat_cond x.toBitVec
  have e1 : x.toInt = x.toBitVec.toInt := rfl
  have hp : 2 ^ k ≤ 2 ^ 31 := Nat.pow_le_pow_right (by decide) hk
  have e2 : ((2 ^ k : Nat) : Int) - 1 ≤ hi := by rw [Int.natCast_pow]; exact e
  generalize (2 ^ k : Nat) = K at *
  unfold iv_R
  split at c1 <;> omega
theorem iv_shl1v : ∀ n, n < 31 → ((1 : Int32) <<< (Int32.ofNat n &&& 31)).toInt = 2 ^ n := by decide +kernel
section IVM
variable {p : Program} {l : Launch} {e : Env} {R : Room} {s : State} {m : MethodId} {args : Array Value} {below : List Frame} {meth : Method} {c : Code} {H : Heap} {locs : List Loc} {cells slots : Nat} {Q : State → Prop}
variable {cc : ByteArray} {nL pc : Nat} {ls : Array Slot} {rest : List Value} {D : va_G} {cl : List vw_C} {tys : List (ClassId × FieldType)} {own : String} {base : Nat}
theorem iv_iand_r (hx : p.tables.exec = Jvm.exec) (hb : c.code = cc) {x y : Int32} {a b : Int} (h2 : iv_R a b y) (e' : 0 ≤ a) (hdg : decode cc pc = .ok (.iand, 1))
    (k : ∀ z : Int32, z = x &&& y → iv_R 0 b z → W p l e R s m args below meth c H locs cells slots Q (F0 m (pc + 1) ls (.int z :: rest))) : W p l e R s m args below meth c H locs cells slots Q (F0 m pc ls (.int y :: .int x :: rest)) := by
  have h := iv_andN x y (Int.le_trans e' h2.1)
  exact lv_iand hx hb hdg (k _ rfl ⟨h.1, Int.le_trans h.2 h2.2⟩)
theorem iv_iand_l (hx : p.tables.exec = Jvm.exec) (hb : c.code = cc) {x y : Int32} {a b : Int} (h2 : iv_R a b x) (e' : 0 ≤ a) (hdg : decode cc pc = .ok (.iand, 1))
    (k : ∀ z : Int32, z = x &&& y → iv_R 0 b z → W p l e R s m args below meth c H locs cells slots Q (F0 m (pc + 1) ls (.int z :: rest))) : W p l e R s m args below meth c H locs cells slots Q (F0 m pc ls (.int y :: .int x :: rest)) := by
  have h := iv_andN y x (Int.le_trans e' h2.1)
  have e1 : x &&& y = y &&& x := Int32.and_comm x y
  exact lv_iand hx hb hdg (k _ rfl ⟨by rw [e1]; exact h.1, by rw [e1]; exact Int.le_trans h.2 h2.2⟩)
theorem iv_tdiv {x y : Int32} (hy : 0 < y.toInt) : (x / y).toInt = x.toInt.tdiv y.toInt := by
  rw [Int32.toInt_div]
  have h1 := Int32.le_toInt x
  have h2 := Int32.toInt_lt x
  have h3 : x.toInt.tdiv y.toInt ≤ x.toInt.natAbs := by
    have := Int.natAbs_tdiv_le_natAbs x.toInt y.toInt
    omega
  have h4 : -(x.toInt.natAbs : Int) ≤ x.toInt.tdiv y.toInt := by
    have := Int.natAbs_tdiv_le_natAbs x.toInt y.toInt
    omega
  have h5 : x.toInt.tdiv y.toInt < 2 ^ 31 := by
    rcases Int.lt_or_le x.toInt 0 with q | q
    · have h6 : x.toInt.tdiv y.toInt ≤ 0 := by
        have := Int.neg_tdiv x.toInt y.toInt
        have h8 : 0 ≤ (-x.toInt).tdiv y.toInt := Int.tdiv_nonneg (by omega) (by omega)
        omega
      omega
    · omega
  exact Int.bmod_eq_of_le (by omega) (by omega)
theorem iv_trem {x y : Int32} (hy : 0 < y.toInt) : (x - x / y * y).toInt = x.toInt.tmod y.toInt := by
  have h0 := iv_tdiv (x := x) hy
  have h1 := Int32.le_toInt x
  have h2 := Int32.toInt_lt x
  have h3 := Int.mul_tdiv_add_tmod x.toInt y.toInt
  have h4 := tmod_bounds (a := x.toInt) hy
  have h5 : (x - x / y * y).toInt = (x.toInt - x.toInt.tdiv y.toInt * y.toInt).bmod (2 ^ 32) := by
    rw [Int32.toInt_sub, Int32.toInt_mul, h0]
    simp [Int.sub_bmod_bmod]
  have h6 : x.toInt - x.toInt.tdiv y.toInt * y.toInt = x.toInt.tmod y.toInt := by
    have := Int.mul_comm y.toInt (x.toInt.tdiv y.toInt)
    omega
  rw [h5, h6]
  have := Int32.toInt_lt y
  exact Int.bmod_eq_of_le (by omega) (by omega)
theorem iv_irem (hx : p.tables.exec = Jvm.exec) (hb : c.code = cc) {x y : Int32} {a b c' d lo hi : Int} (h1 : iv_R a b x) (h2 : iv_R c' d y) (e' : 0 < c' ∧ lo ≤ 1 - d ∧ d - 1 ≤ hi) (hdg : decode cc pc = .ok (.irem, 1))
    (k : ∀ z : Int32, z.toInt = x.toInt.tmod y.toInt → iv_R lo hi z → W p l e R s m args below meth c H locs cells slots Q (F0 m (pc + 1) ls (.int z :: rest))) : W p l e R s m args below meth c H locs cells slots Q (F0 m pc ls (.int y :: .int x :: rest)) := by
  have hy : 0 < y.toInt := by have := h2.1; omega
  have q := h2.2
  have t := iv_trem (x := x) hy
  have h4 := tmod_bounds (a := x.toInt) hy
  exact lv_irem hx hb hdg (iv_nz h2 (Or.inl e'.1)) (k _ t ⟨by omega, by omega⟩)
theorem iv_iremp (hx : p.tables.exec = Jvm.exec) (hb : c.code = cc) {x y : Int32} {a b c' d lo hi : Int} (h1 : iv_R a b x) (h2 : iv_R c' d y) (e' : 0 ≤ a ∧ 0 < c' ∧ lo ≤ 0 ∧ d - 1 ≤ hi) (hdg : decode cc pc = .ok (.irem, 1))
    (k : ∀ z : Int32, z.toInt = x.toInt.tmod y.toInt → iv_R lo hi z → W p l e R s m args below meth c H locs cells slots Q (F0 m (pc + 1) ls (.int z :: rest))) : W p l e R s m args below meth c H locs cells slots Q (F0 m pc ls (.int y :: .int x :: rest)) := by
  have hy : 0 < y.toInt := by have := h2.1; omega
  have q := h2.2
  have q1 := h1.1
  have t := iv_trem (x := x) hy
  have h4 := tmod_bounds (a := x.toInt) hy
  have h5 : 0 ≤ x.toInt.tmod y.toInt := Int.tmod_nonneg _ (by omega)
  exact lv_irem hx hb hdg (iv_nz h2 (Or.inl e'.2.1)) (k _ t ⟨by omega, by omega⟩)
theorem iv_idivp (hx : p.tables.exec = Jvm.exec) (hb : c.code = cc) {x y : Int32} {a b c' lo hi : Int} (h1 : iv_R a b x) (h2 : iv_R c' c' y) (e' : 0 ≤ a ∧ 0 < c' ∧ lo ≤ a.tdiv c' ∧ b.tdiv c' ≤ hi) (hdg : decode cc pc = .ok (.idiv, 1))
    (k : ∀ z : Int32, z.toInt = x.toInt.tdiv y.toInt → iv_R lo hi z → W p l e R s m args below meth c H locs cells slots Q (F0 m (pc + 1) ls (.int z :: rest))) : W p l e R s m args below meth c H locs cells slots Q (F0 m pc ls (.int y :: .int x :: rest)) := by
  have hyc : y.toInt = c' := by have := h2.1; have := h2.2; omega
  have hy : 0 < y.toInt := by omega
  have q1 := h1.1
  have q2 := h1.2
  have t := iv_tdiv (x := x) hy
  have m1 : a.tdiv c' ≤ x.toInt.tdiv y.toInt := by
    rw [hyc, Int.tdiv_eq_ediv_of_nonneg e'.1, Int.tdiv_eq_ediv_of_nonneg (by omega)]
    exact Int.ediv_le_ediv e'.2.1 q1
  have m2 : x.toInt.tdiv y.toInt ≤ b.tdiv c' := by
    rw [hyc, Int.tdiv_eq_ediv_of_nonneg (by omega), Int.tdiv_eq_ediv_of_nonneg (by omega)]
    exact Int.ediv_le_ediv e'.2.1 q2
  exact lv_idiv hx hb hdg (iv_nz h2 (Or.inl e'.2.1)) (k _ t ⟨by omega, by omega⟩)
theorem iv_ixor (hx : p.tables.exec = Jvm.exec) (hb : c.code = cc) {x y : Int32} {a b c' d : Int} (h1 : iv_R a b x) (h2 : iv_R c' d y) {k : Nat} {hi : Int} (e' : 0 ≤ a ∧ 0 ≤ c' ∧ b < 2 ^ k ∧ d < 2 ^ k ∧ k ≤ 31 ∧ (2 : Int) ^ k - 1 ≤ hi) (hdg : decode cc pc = .ok (.ixor, 1))
    (kk : ∀ z : Int32, z = x ^^^ y → iv_R 0 hi z → W p l e R s m args below meth c H locs cells slots Q (F0 m (pc + 1) ls (.int z :: rest))) : W p l e R s m args below meth c H locs cells slots Q (F0 m pc ls (.int y :: .int x :: rest)) := by
  refine lv_ixor hx hb hdg (kk _ rfl (iv_bvR e'.2.2.2.2.1 (k := k) ?_ e'.2.2.2.2.2))
  show (x.toBitVec ^^^ y.toBitVec).toNat < 2 ^ k
  rw [BitVec.toNat_xor]
  exact Nat.xor_lt_two_pow (iv_nn h1 e'.1 e'.2.2.1).1 (iv_nn h2 e'.2.1 e'.2.2.2.1).1
theorem iv_ior (hx : p.tables.exec = Jvm.exec) (hb : c.code = cc) {x y : Int32} {a b c' d : Int} (h1 : iv_R a b x) (h2 : iv_R c' d y) {k : Nat} {hi : Int} (e' : 0 ≤ a ∧ 0 ≤ c' ∧ b < 2 ^ k ∧ d < 2 ^ k ∧ k ≤ 31 ∧ (2 : Int) ^ k - 1 ≤ hi) (hdg : decode cc pc = .ok (.ior, 1))
    (kk : ∀ z : Int32, z = x ||| y → iv_R 0 hi z → W p l e R s m args below meth c H locs cells slots Q (F0 m (pc + 1) ls (.int z :: rest))) : W p l e R s m args below meth c H locs cells slots Q (F0 m pc ls (.int y :: .int x :: rest)) := by
  refine lv_ior hx hb hdg (kk _ rfl (iv_bvR e'.2.2.2.2.1 (k := k) ?_ e'.2.2.2.2.2))
  show (x.toBitVec ||| y.toBitVec).toNat < 2 ^ k
  rw [BitVec.toNat_or]
  exact Nat.or_lt_two_pow (iv_nn h1 e'.1 e'.2.2.1).1 (iv_nn h2 e'.2.1 e'.2.2.2.1).1
theorem iv_shl1 (hx : p.tables.exec = Jvm.exec) (hb : c.code = cc) {y : Int32} {a b lo hi : Int} (h1 : iv_R a b y) (e' : 0 ≤ a ∧ b < 31 ∧ lo ≤ 2 ^ a.toNat ∧ (2 : Int) ^ b.toNat ≤ hi) (hdg : decode cc pc = .ok (.ishl, 1))
    (kk : ∀ z : Int32, z.toInt = 2 ^ y.toInt.toNat → iv_R lo hi z → W p l e R s m args below meth c H locs cells slots Q (F0 m (pc + 1) ls (.int z :: rest))) : W p l e R s m args below meth c H locs cells slots Q (F0 m pc ls (.int y :: .int 1 :: rest)) := by
  have q1 := h1.1
  have q2 := h1.2
  have ey : y = Int32.ofNat y.toInt.toNat := by
    apply Int32.toInt_inj.mp
    have h9 : (nI y.toInt.toNat).toInt = (y.toInt.toNat : Int) := nI_toInt (by omega)
    have h8 : (Int32.ofNat y.toInt.toNat).toInt = (y.toInt.toNat : Int) := h9
    omega
  have t : ((1 : Int32) <<< (y &&& 31)).toInt = 2 ^ y.toInt.toNat := by
    have h7 := iv_shl1v y.toInt.toNat (by omega)
    rw [← ey] at h7
    exact h7
  have m1 : 2 ^ a.toNat ≤ 2 ^ y.toInt.toNat := Nat.pow_le_pow_right (by decide) (by omega)
  have m2 : 2 ^ y.toInt.toNat ≤ 2 ^ b.toNat := Nat.pow_le_pow_right (by decide) (by omega)
  have c1 : ((2 ^ a.toNat : Nat) : Int) = 2 ^ a.toNat := Int.natCast_pow 2 _
  have c2 : ((2 ^ y.toInt.toNat : Nat) : Int) = 2 ^ y.toInt.toNat := Int.natCast_pow 2 _
  have c3 : ((2 ^ b.toNat : Nat) : Int) = 2 ^ b.toNat := Int.natCast_pow 2 _
  refine lv_ishl hx hb hdg (kk _ t ⟨?_, ?_⟩)
  · rw [t, ← c2]; rw [← c1] at e'; omega
  · rw [t, ← c2]; rw [← c3] at e'; omega
/-- Math, once its words are there -/
theorem iv_mmax (X : iv_X p m c cc nL s args iv_W0 own D cl tys base) (hsize : ls.size = nL) {index : Nat} (hl : Cond.methodLink own index Lib.Math.max.name ∈ iv_W0) (hR : 1 ≤ R.frames ∧ (rest.map fun v => v.category).sum + 13 ≤ R.locals) (hRc : cells ≤ R.cells ∧ slots ≤ R.slots) {x y : Int32} {a b c' d lo hi : Int} (h1 : iv_R a b x) (h2 : iv_R c' d y) (e' : (lo ≤ a ∨ lo ≤ c') ∧ b ≤ hi ∧ d ≤ hi) (hdg : decode cc pc = .ok (.invokestatic index, 3))
    (kk : ∀ z : Int32, z = (if x < y then y else x) → iv_R lo hi z → W p l e R s m args below meth c H locs cells slots Q (F0 m (pc + 3) ls (.int z :: rest))) : W p l e R s m args below meth c H locs cells slots Q (F0 m pc ls (.int y :: .int x :: rest)) := by
  have w := X.1.2.2.2.2
  refine va_mmax X.1.1 X.1.2.1 (by rw [X.1.2.2.1, hsize]) X.1.2.2.2.1 (w _ hl) (w _ k_mst_max) (w _ k_min_Math) (w _ k_mcd_max) hR.1 hR.2 hRc.1 hRc.2 hdg (kk _ rfl ?_)
  have q1 := h1.1; have q2 := h1.2; have q3 := h2.1; have q4 := h2.2
  by_cases q : x < y
  · rw [if_pos q]
    have := Int32.lt_iff_toInt_lt.mp q
    exact ⟨by omega, by omega⟩
  · rw [if_neg q]
    have := Int32.le_iff_toInt_le.mp (Int32.not_lt.mp q)
    exact ⟨by omega, by omega⟩
theorem iv_mmin (X : iv_X p m c cc nL s args iv_W0 own D cl tys base) (hsize : ls.size = nL) {index : Nat} (hl : Cond.methodLink own index Lib.Math.min.name ∈ iv_W0) (hR : 1 ≤ R.frames ∧ (rest.map fun v => v.category).sum + 13 ≤ R.locals) (hRc : cells ≤ R.cells ∧ slots ≤ R.slots) {x y : Int32} {a b c' d lo hi : Int} (h1 : iv_R a b x) (h2 : iv_R c' d y) (e' : (lo ≤ a ∧ lo ≤ c') ∧ (b ≤ hi ∨ d ≤ hi)) (hdg : decode cc pc = .ok (.invokestatic index, 3))
    (kk : ∀ z : Int32, z = (if y < x then y else x) → iv_R lo hi z → W p l e R s m args below meth c H locs cells slots Q (F0 m (pc + 3) ls (.int z :: rest))) : W p l e R s m args below meth c H locs cells slots Q (F0 m pc ls (.int y :: .int x :: rest)) := by
  have w := X.1.2.2.2.2
  refine va_mmin X.1.1 X.1.2.1 (by rw [X.1.2.2.1, hsize]) X.1.2.2.2.1 (w _ hl) (w _ k_mst_min) (w _ k_min_Math) (w _ k_mcd_min) hR.1 hR.2 hRc.1 hRc.2 hdg (kk _ rfl ?_)
  have q1 := h1.1; have q2 := h1.2; have q3 := h2.1; have q4 := h2.2
  by_cases q : y < x
  · rw [if_pos q]
    have := Int32.lt_iff_toInt_lt.mp q
    exact ⟨by omega, by omega⟩
  · rw [if_neg q]
    have := Int32.le_iff_toInt_le.mp (Int32.not_lt.mp q)
    exact ⟨by omega, by omega⟩
theorem iv_mabs (X : iv_X p m c cc nL s args iv_W0 own D cl tys base) (hsize : ls.size = nL) {index : Nat} (hl : Cond.methodLink own index Lib.Math.abs.name ∈ iv_W0) (hR : 1 ≤ R.frames ∧ (rest.map fun v => v.category).sum + 13 ≤ R.locals) (hRc : cells ≤ R.cells ∧ slots ≤ R.slots) {x : Int32} (hdg : decode cc pc = .ok (.invokestatic index, 3))
    (kk : ∀ z : Int32, z = (if 0 ≤ x then x else 0 - x) → iv_R (-2147483648) 2147483647 z → W p l e R s m args below meth c H locs cells slots Q (F0 m (pc + 3) ls (.int z :: rest))) : W p l e R s m args below meth c H locs cells slots Q (F0 m pc ls (.int x :: rest)) := by
  have w := X.1.2.2.2.2
  exact va_mabs X.1.1 X.1.2.1 (by rw [X.1.2.2.1, hsize]) X.1.2.2.2.1 (w _ hl) (w _ k_mst_abs) (w _ k_min_Math) (w _ k_mcd_abs) hR.1 hR.2 hRc.1 hRc.2 hdg (kk _ rfl (iv_R.all _))
end IVM
theorem iv_inU {i : Int32} {a b : Int} {n : Nat} (h : iv_R a b i) (e : 0 ≤ a) (h2 : i.toInt < (n : Int)) : vp_in i n := by
  intro q
  rcases q with q | q
  · have := Int32.lt_iff_toInt_lt.mp q
    rw [Int32.toInt_zero] at this
    have := h.1
    omega
  · have h1 := h.1
    have : i.toNatClampNeg = i.toInt.toNat := rfl
    omega
theorem iv_ltU {i t : Int32} {n : Int} (h : i < t) (h2 : t.toInt ≤ n) : i.toInt < n := Int.lt_of_lt_of_le (Int32.lt_iff_toInt_lt.mp h) h2
theorem iv_sh_big (x : Nat) : iv_sh (10000 + x) = iv_lsh (x / 1024 / 64) (x / 1024 % 64) (x % 1024) := by
  unfold iv_sh
  split <;> first | omega | (rw [Nat.add_sub_cancel_left])
theorem iv_sh_lc {role n u : Nat} (hn : n < 64) (hu : u < 1024) : iv_sh (iv_lc role n u) = iv_lsh role n u := by
  have e : iv_lc role n u = 10000 + ((role * 64 + n) * 1024 + u) := by unfold iv_lc; omega
  rw [e, iv_sh_big]
  have e1 : ((role * 64 + n) * 1024 + u) / 1024 = role * 64 + n := by omega
  have e2 : ((role * 64 + n) * 1024 + u) % 1024 = u := by omega
  have e3 : (role * 64 + n) / 64 = role := by omega
  have e4 : (role * 64 + n) % 64 = n := by omega
  rw [e1, e2, e3, e4]
theorem sh_l0 (r : Nat → Nat) : iv_sh (iv_lc 0 (r 10 % 64) (r 11 % 1024)) = .inr (.inl (r 10 % 64, iv_E (-2147483648) 2147483647 (r 10 % 64))) := iv_sh_lc (Nat.mod_lt _ (by decide)) (Nat.mod_lt _ (by decide))
theorem sh_l1 (r : Nat → Nat) : iv_sh (iv_lc 1 (r 10 % 64) (r 11 % 1024)) = .inr (.inl (r 10 % 64 + 1, iv_E 0 ((r 11 % 1024 : Nat) : Int) (r 10 % 64 + 1))) := iv_sh_lc (Nat.mod_lt _ (by decide)) (Nat.mod_lt _ (by decide))
theorem sh_l2 (r : Nat → Nat) : iv_sh (iv_lc 2 (r 10 % 64) (r 11 % 1024)) = .inr (.inl (r 10 % 64, iv_E 0 ((r 11 % 1024 : Nat) : Int) (r 10 % 64))) := iv_sh_lc (Nat.mod_lt _ (by decide)) (Nat.mod_lt _ (by decide))
theorem sh_l3 (r : Nat → Nat) : iv_sh (iv_lc 3 (r 10 % 64) (r 11 % 1024)) = .inr (.inl (r 11 % 1024, iv_E 0 148 (r 11 % 1024))) := iv_sh_lc (Nat.mod_lt _ (by decide)) (Nat.mod_lt _ (by decide))
theorem sh_l4 (r : Nat → Nat) : iv_sh (iv_lc 4 (r 10 % 64) (r 11 % 1024)) = .inr (.inl (r 11 % 1024, iv_E (-2147483648) 2147483647 (r 11 % 1024))) := iv_sh_lc (Nat.mod_lt _ (by decide)) (Nat.mod_lt _ (by decide))
/-! the reference's own numbers -/
theorem iv_wb_lo (i : Nat) : -2147483648 ≤ (iv_wb i).1 := by
  unfold iv_wb
  repeat' split
  all_goals decide
theorem iv_sg_up {g : Nat → Int32} {o j : Nat} {x : Int32} : ∀ (n b t : Nat), (j < o + 2 * b ∨ o + 2 * (b + n) ≤ j) → iv_sg g o n b t → iv_sg (upd g j x) o n b t := by
  intro n
  induction n with
  | zero => intro b t _ _; trivial
  | succ n ih =>
    intro b t hj h
    have e1 : upd g j x (o + 2 * b) = g (o + 2 * b) := by
      have : o + 2 * b ≠ j := by omega
      simp [upd, this]
    have e2 : upd g j x (o + 2 * b + 1) = g (o + 2 * b + 1) := by
      have : o + 2 * b + 1 ≠ j := by omega
      simp [upd, this]
    unfold iv_sg at h ⊢
    rw [e1, e2]
    have hj' : j < o + 2 * (b + 1) ∨ o + 2 * (b + 1 + n) ≤ j := by omega
    rcases h with ⟨h1, h2, h3⟩ | ⟨h1, h2, h3, h4⟩ | ⟨h1, h2, h3⟩ | ⟨h1, h2, h3, h4, h5, h6⟩
    · exact Or.inl ⟨h1, h2, ih _ _ hj' h3⟩
    · exact Or.inr (Or.inl ⟨h1, h2, h3, ih _ _ hj' h4⟩)
    · exact Or.inr (Or.inr (Or.inl ⟨h1, h2, ih _ _ hj' h3⟩))
    · exact Or.inr (Or.inr (Or.inr ⟨h1, h2, h3, h4, h5, ih _ _ hj' h6⟩))
theorem iv_sg_s {g : Nat → Int32} {o n b t : Nat} {s v : Int32} (h : iv_sg g o n b t) (hn : 0 < n) (es : s = g (o + 2 * b)) (ev : v = g (o + 2 * b + 1)) : (0 ≤ s.toInt ∧ s.toInt < 12 ∧ iv_sg g o (n - 1) (b + 1) (t + 1)) ∨ (s.toInt = 26 ∧ 1 ≤ t ∧ ¬ v = 0 ∧ iv_sg g o (n - 1) (b + 1) t) ∨ (s.toInt = 30 ∧ 1 ≤ t ∧ iv_sg g o (n - 1) (b + 1) t) ∨ (23 ≤ s.toInt ∧ s.toInt ≤ 32 ∧ s.toInt ≠ 26 ∧ s.toInt ≠ 30 ∧ 2 ≤ t ∧ iv_sg g o (n - 1) (b + 1) (t - 1)) := by
  obtain ⟨n, rfl⟩ : ∃ q, n = q + 1 := ⟨n - 1, by omega⟩
  unfold iv_sg at h
  rw [← es, ← ev] at h
  exact h
def iv_sD (g : Nat → Int32) (o n b t : Nat) (s v : Int32) : Prop := (0 ≤ s.toInt ∧ s.toInt < 12 ∧ iv_sg g o (n - 1) (b + 1) (t + 1)) ∨ (s.toInt = 26 ∧ 1 ≤ t ∧ ¬ v = 0 ∧ iv_sg g o (n - 1) (b + 1) t) ∨ (s.toInt = 30 ∧ 1 ≤ t ∧ iv_sg g o (n - 1) (b + 1) t) ∨ (23 ≤ s.toInt ∧ s.toInt ≤ 32 ∧ s.toInt ≠ 26 ∧ s.toInt ≠ 30 ∧ 2 ≤ t ∧ iv_sg g o (n - 1) (b + 1) (t - 1))
theorem iv_c1 {g : Nat → Int32} {o n b t : Nat} {s v : Int32} (h : iv_sD g o n b t s v) (q : s < 23) : iv_R 0 11 s ∧ iv_sg g o (n - 1) (b + 1) (t + 1) := by
  have q := Int32.lt_iff_toInt_lt.mp q
  have q0 : (23 : Int32).toInt = 23 := rfl
  rcases h with h | h | h | h
  · exact ⟨⟨h.1, by omega⟩, h.2.2⟩
  · omega
  · omega
  · omega
theorem iv_c2 {g : Nat → Int32} {o n b t : Nat} {s v : Int32} (h : iv_sD g o n b t s v) (q : s = 26) : 1 ≤ t ∧ ¬ v = 0 ∧ iv_sg g o (n - 1) (b + 1) t := by
  have q := congrArg Int32.toInt q
  have q0 : (26 : Int32).toInt = 26 := rfl
  rcases h with h | h | h | h
  · omega
  · exact h.2
  · omega
  · omega
theorem iv_c3 {g : Nat → Int32} {o n b t : Nat} {s v : Int32} (h : iv_sD g o n b t s v) (q : s = 30) : 1 ≤ t ∧ iv_sg g o (n - 1) (b + 1) t := by
  have q := congrArg Int32.toInt q
  have q0 : (30 : Int32).toInt = 30 := rfl
  rcases h with h | h | h | h
  · omega
  · omega
  · exact h.2
  · omega
theorem iv_c4 {g : Nat → Int32} {o n b t : Nat} {s v : Int32} (h : iv_sD g o n b t s v) (q1 : ¬ s < 23) (q2 : ¬ s = 26) (q3 : ¬ s = 30) : 2 ≤ t ∧ iv_sg g o (n - 1) (b + 1) (t - 1) := by
  have q1 := Int32.le_iff_toInt_le.mp (Int32.not_lt.mp q1)
  have q0 : (23 : Int32).toInt = 23 := rfl
  rcases h with h | h | h | h
  · omega
  · exact absurd (Int32.toInt_inj.mp (h.1.trans (show (26 : Int) = (26 : Int32).toInt from rfl))) q2
  · exact absurd (Int32.toInt_inj.mp (h.1.trans (show (30 : Int) = (30 : Int32).toInt from rfl))) q3
  · exact h.2.2.2.2
theorem iv_sgc {g : Nat → Int32} {o n b t n' b' t' : Nat} (h : iv_sg g o n b t) (e1 : n = n') (e2 : b = b') (e3 : t = t') : iv_sg g o n' b' t' := by
  subst e1; subst e2; subst e3; exact h
theorem iv_samew {G : iv_G} {a b : Nat} {c : Nat} {g g' : Nat → Int32} {r r' : Nat → Nat} (h : G a = some (c, g, r)) (e : b = a) (h' : G b = some (c, g', r')) : g' = g := by
  subst e
  have := h.symm.trans h'
  cases this
  rfl
theorem iv_lw_up {g : Nat → Int32} {k j : Nat} {x : Int32} (hj : j < 746) (hk : j ≠ 150 + k) (h : iv_lw g k) : iv_lw (upd g j x) k := by
  intro i hi
  have ne : ∀ q, 746 ≤ q → upd g j x q = g q := fun q hq => by
    have : q ≠ j := by omega
    simp [upd, this]
  have e0 : upd g j x (150 + k) = g (150 + k) := by
    have : 150 + k ≠ j := fun q => hk q.symm
    simp [upd, this]
  rw [e0] at hi
  obtain ⟨b, m, e, h1, h2, h3, h4, h5, h6, h7, h8⟩ := h i hi
  exact ⟨b, m, e, by rw [ne _ (by omega)]; exact h1, by rw [ne _ (by omega)]; exact h2, by rw [ne _ (by omega)]; exact h3, h4, h5, h6, iv_sg_up _ _ _ (Or.inl (by omega)) h7, iv_sg_up _ _ _ (Or.inl (by omega)) h8⟩
theorem iv_wP.up {g : Nat → Int32} {j : Nat} {x : Int32} (h : iv_wP g) (hj : j < 746) (h0 : j ≠ 150) (h1 : j ≠ 151) (hx : iv_R (iv_wb j).1 (iv_wb j).2 x) : iv_wP (upd g j x) := by
  refine ⟨fun i hi => ?_, iv_lw_up hj (by omega) h.2.1, iv_lw_up hj (by omega) h.2.2⟩
  by_cases e : i = j
  · subst e
    simpa [upd] using hx
  · have := h.1 i hi
    simpa [upd, e] using this
theorem iv_kP.up {g : Nat → Int32} {j : Nat} {x : Int32} (h : iv_kP g) (hx : iv_R (iv_wb (j % 146)).1 (iv_wb (j % 146)).2 x) : iv_kP (upd g j x) := by
  intro i hi
  by_cases e : i = j
  · subst e
    simpa [upd] using hx
  · have := h i hi
    simpa [upd, e] using this
theorem iv_wP.up7 {g : Nat → Int32} {i x : Int32} {lo hi : Int} (h : iv_wP g) (hi' : iv_R lo hi i) (e : 0 ≤ lo ∧ hi < 146) (hx : iv_R (iv_wb (i.toNatClampNeg % 146)).1 (iv_wb (i.toNatClampNeg % 146)).2 x) : iv_wP (upd g i.toNatClampNeg x) := by
  have h1 := hi'.1
  have h2 := hi'.2
  have e0 : i.toNatClampNeg = i.toInt.toNat := rfl
  rw [Nat.mod_eq_of_lt (by omega)] at hx
  exact h.up (by omega) (by omega) (by omega) hx
theorem iv_wP_lw {g : Nat → Int32} (h : iv_wP g) (k : Nat) (hk : k ≤ 1) : iv_lw g k := by
  rcases (show k = 0 ∨ k = 1 by omega) with rfl | rfl
  · exact h.2.1
  · exact h.2.2
theorem iv_wP_ln {g : Nat → Int32} (h : iv_wP g) (k : Nat) (hk : k ≤ 1) : iv_R 0 16 (g (150 + k)) := by
  rcases (show k = 0 ∨ k = 1 by omega) with rfl | rfl
  · exact h.1 150 (by decide)
  · exact h.1 151 (by decide)
theorem iv_clamp {i : Int32} {n : Int} (h : iv_R n n i) : i.toNatClampNeg = n.toNat := by
  have h1 := h.1
  have h2 := h.2
  have e : i.toNatClampNeg = i.toInt.toNat := rfl
  rw [e]
  congr 1
  omega
theorem iv_n146 {i : Int32} {lo hi : Int} (h : iv_R lo hi i) (e : 0 ≤ lo ∧ (hi < 146 ∨ 146 < lo)) : i.toNatClampNeg ∉ iv_stab 60 := by
  have h1 := h.1
  have h2 := h.2
  have e0 : i.toNatClampNeg = i.toInt.toNat := rfl
  show i.toNatClampNeg ∉ [146]
  simp only [List.mem_singleton]
  omega
theorem iv_updne {g : Nat → Int32} {n j : Nat} {x : Int32} (h : n ≠ j) : g n = upd g j x n := by simp [upd, h]
theorem iv_neN {i : Int32} {lo hi : Int} {n : Nat} (h : iv_R lo hi i) (e : 0 ≤ lo ∧ ((n : Int) < lo ∨ hi < (n : Int))) : n ≠ i.toNatClampNeg := by
  have h1 := h.1
  have h2 := h.2
  have e0 : i.toNatClampNeg = i.toInt.toNat := rfl
  omega
/-- the numbers of a bell: its tower is in bounds -/
theorem iv_bellb {idx : Nat} {b f : Int} (e : (idx : Int) = 66 + 8 * b + f) (hb : 0 ≤ b ∧ b ≤ 9) (hf : 0 ≤ f ∧ f ≤ 7) : iv_wb idx = if f = 0 then (0, 3) else if f = 1 then (0, 47) else (-2147483648, 2147483647) := by
  unfold iv_wb
  by_cases q : f = 0
  · rw [if_pos q, if_neg (by omega), if_neg (by omega), if_pos (by omega)]
  · rw [if_neg q]
    by_cases q1 : f = 1
    · rw [if_pos q1, if_neg (by omega), if_neg (by omega), if_neg (by omega), if_pos (by omega)]
    · rw [if_neg q1, if_neg (by omega), if_neg (by omega), if_neg (by omega), if_neg (by omega), if_neg (by omega), if_neg (by omega), if_neg (by omega), if_neg (by omega), if_neg (by omega)]
section IVW
variable {p : Program} {l : Launch} {e : Env} {R : Room} {s : State} {m : MethodId} {args : Array Value} {below : List Frame} {meth : Method} {c : Code} {H : Heap} {locs : List Loc} {cells slots : Nat} {Q : State → Prop}
variable {cc : ByteArray} {nL pc : Nat} {ls : Array Slot} {rest : List Value} {D : va_G} {cl : List vw_C} {tys : List (ClassId × FieldType)} {base : Nat} {G : iv_G} {H0 : Heap} {a : Nat} {own : String}
/-- a place of the reference's numbers that is known, and any place -/
theorem iv_wald_c (X : iv_X p m c cc nL s args iv_W0 own D cl tys base) (hB : iv_B iv_sh D cl tys base G H0 H locs) {g : Nat → Int32} {r : Nat → Nat} (ha : G a = some (60, g, r)) {i : Int32} {n : Int} (hi : iv_R n n i) (e' : 0 ≤ n ∧ n < 746) {lo hi' : Int} (hw : iv_wb n.toNat = (lo, hi')) (hdg : decode cc pc = .ok (.iaload, 1))
    (kk : ∀ z : Int32, z = g n.toNat → iv_R lo hi' z → W p l e R s m args below meth c H locs cells slots Q (F0 m (pc + 1) ls (.int z :: rest))) : W p l e R s m args below meth c H locs cells slots Q (F0 m pc ls (.int i :: .ref a :: rest)) := by
  refine iv_aldP X hB ha sh_60 (iv_in hi ⟨e'.1, by omega⟩) hdg (fun h => ?_)
  rw [iv_clamp hi]
  refine kk _ rfl ?_
  have h1 := h.1 n.toNat (by omega)
  rw [hw] at h1
  exact h1
theorem iv_wald_f (X : iv_X p m c cc nL s args iv_W0 own D cl tys base) (hB : iv_B iv_sh D cl tys base G H0 H locs) {g : Nat → Int32} {r : Nat → Nat} (ha : G a = some (60, g, r)) {i : Int32} {lo hi : Int} (hi' : iv_R lo hi i) (e' : 0 ≤ lo ∧ hi < 2514) (hdg : decode cc pc = .ok (.iaload, 1))
    (kk : ∀ z : Int32, z = g i.toNatClampNeg → iv_R (-2147483648) 2147483647 z → W p l e R s m args below meth c H locs cells slots Q (F0 m (pc + 1) ls (.int z :: rest))) : W p l e R s m args below meth c H locs cells slots Q (F0 m pc ls (.int i :: .ref a :: rest)) :=
  iv_aldP X hB ha sh_60 (iv_in hi' ⟨e'.1, by omega⟩) hdg (fun _ => kk _ rfl (iv_R.all _))
theorem iv_wast_c (X : iv_X p m c cc nL s args iv_W0 own D cl tys base) (hB : iv_B iv_sh D cl tys base G H0 H locs) {g : Nat → Int32} {r : Nat → Nat} (ha : G a = some (60, g, r)) {i x : Int32} {n : Int} (hi : iv_R n n i) (e' : 0 ≤ n ∧ n < 746 ∧ n ≠ 150 ∧ n ≠ 151) {lo hi' : Int} (hw : iv_wb n.toNat = (lo, hi')) (hx : iv_R lo hi' x) (hdg : decode cc pc = .ok (.iastore, 1))
    (kk : ∀ (H1 : Heap) (locs1 : List Loc), iv_B iv_sh D cl tys base (iv_up G a (60, upd g n.toNat x, r)) H0 H1 locs1 → W p l e R s m args below meth c H1 locs1 cells slots Q (F0 m (pc + 1) ls rest)) : W p l e R s m args below meth c H locs cells slots Q (F0 m pc ls (.int x :: .int i :: .ref a :: rest)) := by
  refine iv_astP X hB ha sh_60 (iv_in hi ⟨e'.1, by omega⟩) (fun h => ?_) hdg (fun H1 locs1 h => ?_)
  · rw [iv_clamp hi]
    exact h.up (by omega) (by omega) (by omega) (by rw [hw]; exact hx)
  · rw [iv_clamp hi] at h
    exact kk H1 locs1 h
/-- a place of free numbers: a block without a bound -/
theorem iv_wast_f (X : iv_X p m c cc nL s args iv_W0 own D cl tys base) (hB : iv_B iv_sh D cl tys base G H0 H locs) {g : Nat → Int32} {r : Nat → Nat} (ha : G a = some (60, g, r)) {i x : Int32} {lo hi : Int} (hi' : iv_R lo hi i) (e' : (5 ≤ lo ∧ hi < 66) ∨ (153 ≤ lo ∧ hi < 746)) (hdg : decode cc pc = .ok (.iastore, 1))
    (kk : ∀ (H1 : Heap) (locs1 : List Loc), iv_B iv_sh D cl tys base (iv_up G a (60, upd g i.toNatClampNeg x, r)) H0 H1 locs1 → W p l e R s m args below meth c H1 locs1 cells slots Q (F0 m (pc + 1) ls rest)) : W p l e R s m args below meth c H locs cells slots Q (F0 m pc ls (.int x :: .int i :: .ref a :: rest)) := by
  have h1 := hi'.1
  have h2 := hi'.2
  have e0 : i.toNatClampNeg = i.toInt.toNat := rfl
  refine iv_astP X hB ha sh_60 (iv_in hi' ⟨by omega, by omega⟩) (fun h => ?_) hdg kk
  refine h.up (by omega) (by omega) (by omega) ?_
  have : iv_wb i.toNatClampNeg = (-2147483648, 2147483647) := by
    unfold iv_wb
    rw [if_neg (by omega), if_neg (by omega), if_neg (by omega), if_neg (by omega), if_neg (by omega), if_neg (by omega), if_neg (by omega), if_neg (by omega), if_neg (by omega)]
  rw [this]
  exact iv_R.all x
end IVW
theorem iv_getw {D : va_G} {tys : List (ClassId × FieldType)} {base : Nat} {G : iv_G} {H0 H : Heap} {locs : List Loc} {a : Nat} {g : Nat → Int32} {r : Nat → Nat} (hB : iv_B iv_sh D classes tys base G H0 H locs) (ha : G a = some (12, g, r)) : ∃ (gw : Nat → Int32) (rw : Nat → Nat), G (r 0) = some (60, gw, rw) := by
  obtain ⟨q, h1, h2, h3⟩ := (hB.got ha).obj sh_12
  have hq : q = (RX12, TX12, 32) := Option.some.inj (h1.symm.trans ft_X12.1)
  subst hq
  obtain ⟨⟨c, g', r'⟩, h5, h6⟩ := h3 0 (by decide)
  have h6 : c = 60 := h6
  subst h6
  exact ⟨g', r', h5⟩
theorem iv_getwP {D : va_G} {tys : List (ClassId × FieldType)} {base : Nat} {G : iv_G} {H0 H : Heap} {locs : List Loc} {a : Nat} {g : Nat → Int32} {r : Nat → Nat} (hB : iv_B iv_sh D classes tys base G H0 H locs) (ha : G a = some (12, g, r)) : ∃ (gw : Nat → Int32) (rw : Nat → Nat), G (r 0) = some (60, gw, rw) ∧ 0 ≤ (gw 146).toInt := by
  obtain ⟨gw, rw, h⟩ := iv_getw hB ha
  refine ⟨gw, rw, h, ?_⟩
  obtain ⟨cA, h1, h2, h3⟩ := (hB.got h).arr sh_60
  have h4 := (h3.1 146 (by decide)).1
  have h5 : (iv_wb 146).1 = 0 := by decide
  omega
/-- the reader's place never goes back, and stays in bounds -/
theorem iv_nxt {D : va_G} {tys : List (ClassId × FieldType)} {base : Nat} {G : iv_G} {H0 H : Heap} {locs : List Loc} {a : Nat} {g g' : Nat → Int32} {r r' : Nat → Nat} (hB : iv_B iv_sh D classes tys base G H0 H locs) (ha : G a = some (7, g', r')) (hr : iv_rel (7, g, r) (7, g', r')) (h : iv_R 0 400 (g 1)) : iv_R 0 400 (g' 1) := by
  obtain ⟨q, h1, h2, h3⟩ := (hB.got ha).obj sh_7
  have hq : q = (RX7, TX7, 15) := Option.some.inj (h1.symm.trans ft_X7.1)
  subst hq
  have h4 : iv_R (-1) 400 (g' 1) := h3 1 (by decide)
  have h5 := (hr.2.2 rfl).1
  exact ⟨Int.le_trans h.1 h5, h4.2⟩
theorem dX11_isWithin_0 : decode cX11_isWithin 0 = .ok (.iload_n 0, 1) := by decide +kernel
theorem dX11_isWithin_1 : decode cX11_isWithin 1 = .ok (.iload_n 1, 1) := by decide +kernel
theorem dX11_isWithin_2 : decode cX11_isWithin 2 = .ok (.if_icmp .lt 12, 3) := by decide +kernel
theorem dX11_isWithin_5 : decode cX11_isWithin 5 = .ok (.iload_n 0, 1) := by decide +kernel
theorem dX11_isWithin_6 : decode cX11_isWithin 6 = .ok (.iload_n 2, 1) := by decide +kernel
theorem dX11_isWithin_7 : decode cX11_isWithin 7 = .ok (.if_icmp .gt 7, 3) := by decide +kernel
theorem dX11_isWithin_10 : decode cX11_isWithin 10 = .ok (.iconst 1, 1) := by decide +kernel
theorem dX11_isWithin_11 : decode cX11_isWithin 11 = .ok (.goto 4, 3) := by decide +kernel
theorem dX11_isWithin_14 : decode cX11_isWithin 14 = .ok (.iconst 0, 1) := by decide +kernel
theorem dX11_isWithin_15 : decode cX11_isWithin 15 = .ok (.ireturn, 1) := by decide +kernel
set_option maxHeartbeats 4000000 in
theorem c_X11_isWithin (l : Launch) (D : va_G) (tys : List (ClassId × FieldType)) (base : Nat) (G : iv_G) (x_0 : Int32) (i_x_0 : iv_R (-2147483648) 2147483647 x_0) (x_1 : Int32) (i_x_1 : iv_R (-2147483648) 2147483647 x_1) (x_2 : Int32) (i_x_2 : iv_R (-2147483648) 2147483647 x_2) : Met l yX11_isWithin (Cond.code yX11_isWithin cX11_isWithin 3 (some .boolean) :: iv_W0) ({ frames := 0, cells := 0, slots := 0, locals := 0 }) (iv_Pc iv_sh D classes tys base G [.int x_0, .int x_1, .int x_2]) (iv_Qi iv_sh D classes tys base (fun v G' => G = G' ∧ iv_R 0 1 v ∧ (¬ v = 0 → x_1.toInt ≤ x_0.toInt ∧ x_0.toInt ≤ x_2.toInt) ∧ (v = 0 → x_0.toInt < x_1.toInt ∨ x_2.toInt < x_0.toInt))) 0 0 (iv_A base) := by
  refine iv_head (by decide) (Nat.le_of_ble_eq_true rfl) ?_
  intro p e s m args below meth c ls X hr hlocks hname hB hl
  have hx := X.1.1
  have hb := X.1.2.1
  have hl : lv_has ls 3 [(0, .int x_0), (1, .int x_1), (2, .int x_2)] := hl
  refine lv_iload_n hx hb dX11_isWithin_0 rfl (lv_at hl 0 rfl) ?_
  refine lv_iload_n hx hb dX11_isWithin_1 rfl (lv_at hl 1 rfl) ?_
  refine lv_icmp_lt (tgt := 14) hx hb dX11_isWithin_2 (by decide) (fun c1 => ?_) (fun c1 => ?_)
  · refine lv_iconst (v := 0) hx hb dX11_isWithin_14 (by decide) ?_
    exact iv_zret X hr hlocks hB (q_0.wk (by decide)) ⟨rfl, q_0.wk (by decide), fun h => absurd rfl h, fun _ => Or.inl (Int32.lt_iff_toInt_lt.mp c1)⟩ dX11_isWithin_15
  · refine lv_iload_n hx hb dX11_isWithin_5 rfl (lv_at hl 0 rfl) ?_
    refine lv_iload_n hx hb dX11_isWithin_6 rfl (lv_at hl 2 rfl) ?_
    refine lv_icmp_gt (tgt := 14) hx hb dX11_isWithin_7 (by decide) (fun c2 => ?_) (fun c2 => ?_)
    · refine lv_iconst (v := 0) hx hb dX11_isWithin_14 (by decide) ?_
      exact iv_zret X hr hlocks hB (q_0.wk (by decide)) ⟨rfl, q_0.wk (by decide), fun h => absurd rfl h, fun _ => Or.inr (Int32.lt_iff_toInt_lt.mp c2)⟩ dX11_isWithin_15
    · refine lv_iconst (v := 1) hx hb dX11_isWithin_10 (by decide) ?_
      refine lv_goto (tgt := 15) hx hb dX11_isWithin_11 (by decide) ?_
      exact iv_zret X hr hlocks hB (q_1.wk (by decide)) ⟨rfl, q_1.wk (by decide), fun _ => ⟨Int32.le_iff_toInt_le.mp (iv_nlt c1), Int32.le_iff_toInt_le.mp (iv_nlt c2)⟩, fun h => absurd h (by decide)⟩ dX11_isWithin_15
theorem dX12_isIn_0 : decode cX12_isIn 0 = .ok (.iload_n 0, 1) := by decide +kernel
theorem dX12_isIn_1 : decode cX12_isIn 1 = .ok (.iload_n 1, 1) := by decide +kernel
theorem dX12_isIn_2 : decode cX12_isIn 2 = .ok (.if_icmp .lt 12, 3) := by decide +kernel
theorem dX12_isIn_5 : decode cX12_isIn 5 = .ok (.iload_n 0, 1) := by decide +kernel
theorem dX12_isIn_6 : decode cX12_isIn 6 = .ok (.iload_n 2, 1) := by decide +kernel
theorem dX12_isIn_7 : decode cX12_isIn 7 = .ok (.if_icmp .gt 7, 3) := by decide +kernel
theorem dX12_isIn_10 : decode cX12_isIn 10 = .ok (.iconst 1, 1) := by decide +kernel
theorem dX12_isIn_11 : decode cX12_isIn 11 = .ok (.goto 4, 3) := by decide +kernel
theorem dX12_isIn_14 : decode cX12_isIn 14 = .ok (.iconst 0, 1) := by decide +kernel
theorem dX12_isIn_15 : decode cX12_isIn 15 = .ok (.ireturn, 1) := by decide +kernel
set_option maxHeartbeats 4000000 in
theorem c_X12_isIn (l : Launch) (D : va_G) (tys : List (ClassId × FieldType)) (base : Nat) (G : iv_G) (x_0 : Int32) (i_x_0 : iv_R (-2147483648) 2147483647 x_0) (x_1 : Int32) (i_x_1 : iv_R (-2147483648) 2147483647 x_1) (x_2 : Int32) (i_x_2 : iv_R (-2147483648) 2147483647 x_2) : Met l yX12_isIn (Cond.code yX12_isIn cX12_isIn 3 (some .boolean) :: iv_W0) ({ frames := 0, cells := 0, slots := 0, locals := 0 }) (iv_Pc iv_sh D classes tys base G [.int x_0, .int x_1, .int x_2]) (iv_Qi iv_sh D classes tys base (fun v G' => G = G' ∧ iv_R 0 1 v ∧ (¬ v = 0 → x_1.toInt ≤ x_0.toInt ∧ x_0.toInt ≤ x_2.toInt) ∧ (v = 0 → x_0.toInt < x_1.toInt ∨ x_2.toInt < x_0.toInt))) 0 0 (iv_A base) := by
  refine iv_head (by decide) (Nat.le_of_ble_eq_true rfl) ?_
  intro p e s m args below meth c ls X hr hlocks hname hB hl
  have hx := X.1.1
  have hb := X.1.2.1
  have hl : lv_has ls 3 [(0, .int x_0), (1, .int x_1), (2, .int x_2)] := hl
  refine lv_iload_n hx hb dX12_isIn_0 rfl (lv_at hl 0 rfl) ?_
  refine lv_iload_n hx hb dX12_isIn_1 rfl (lv_at hl 1 rfl) ?_
  refine lv_icmp_lt (tgt := 14) hx hb dX12_isIn_2 (by decide) (fun c1 => ?_) (fun c1 => ?_)
  · refine lv_iconst (v := 0) hx hb dX12_isIn_14 (by decide) ?_
    exact iv_zret X hr hlocks hB (q_0.wk (by decide)) ⟨rfl, q_0.wk (by decide), fun h => absurd rfl h, fun _ => Or.inl (Int32.lt_iff_toInt_lt.mp c1)⟩ dX12_isIn_15
  · refine lv_iload_n hx hb dX12_isIn_5 rfl (lv_at hl 0 rfl) ?_
    refine lv_iload_n hx hb dX12_isIn_6 rfl (lv_at hl 2 rfl) ?_
    refine lv_icmp_gt (tgt := 14) hx hb dX12_isIn_7 (by decide) (fun c2 => ?_) (fun c2 => ?_)
    · refine lv_iconst (v := 0) hx hb dX12_isIn_14 (by decide) ?_
      exact iv_zret X hr hlocks hB (q_0.wk (by decide)) ⟨rfl, q_0.wk (by decide), fun h => absurd rfl h, fun _ => Or.inr (Int32.lt_iff_toInt_lt.mp c2)⟩ dX12_isIn_15
    · refine lv_iconst (v := 1) hx hb dX12_isIn_10 (by decide) ?_
      refine lv_goto (tgt := 15) hx hb dX12_isIn_11 (by decide) ?_
      exact iv_zret X hr hlocks hB (q_1.wk (by decide)) ⟨rfl, q_1.wk (by decide), fun _ => ⟨Int32.le_iff_toInt_le.mp (iv_nlt c1), Int32.le_iff_toInt_le.mp (iv_nlt c2)⟩, fun h => absurd h (by decide)⟩ dX12_isIn_15
