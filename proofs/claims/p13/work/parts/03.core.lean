/-! The typed store: G says of each address of ours its code, what its int slots hold, what its reference slots hold; sh says of each code what a cell of it looks like -/
abbrev iv_K : Type := Nat × (Nat → Int32) × (Nat → Nat)
abbrev iv_G : Type := Nat → Option iv_K
abbrev iv_T : Type := (Int × Int) ⊕ Nat
abbrev iv_Sh : Type := (Nat × (iv_K → Nat → iv_T)) ⊕ ((Nat × ((Nat → Int32) → Prop)) ⊕ (Nat × Nat × Nat))
/-- the nest mates' links, which hold of a state -/
def iv_nest : List (String × Nat × MethodName × String) := [(RX5, 56, yX1_init, "UnbornBells"), (RX11, 21, yX6_init, "UnbornBells"), (RX11, 32, yX7_init, "UnbornBells"), (RX7, 11, yX10_init, "UnbornBells"), (RX8, 26, yX11_isWithin, "UnbornBells"), (RX5, 106, yX11_isTower, "UnbornBells"), (RX7, 101, yX11_isWithin, "UnbornBells"), (RX4, 29, yX11_isWithin, "UnbornBells"), (RX9, 118, yX11_isWithin, "UnbornBells")]
/-- the string constants, and what else holds of a state and of cells that are not ours -/
def iv_str : List (String × Nat × String) := [("UnbornBells$Tokens", 53, "ring at for loud come slack when or and not weight pitch hope cracked frost far hour muffled clear days day "), ("UnbornBells$Tokens", 45, ";+-*/()<=>"), ("UnbornBellsModel", 101, "ring"), ("UnbornBellsModel", 107, "at"), ("UnbornBellsModel", 108, "for"), ("UnbornBellsModel", 147, "when"), ("UnbornBellsModel", 149, "or"), ("UnbornBellsModel", 151, "and"), ("UnbornBellsModel", 153, "not"), ("UnbornBellsModel", 120, "loud"), ("UnbornBellsModel", 122, "far"), ("UnbornBellsModel", 124, "hour"), ("UnbornBellsModel", 126, "muffled"), ("UnbornBellsModel", 110, "weight"), ("UnbornBellsModel", 112, "pitch"), ("UnbornBellsModel", 114, "hope"), ("UnbornBellsModel", 116, "cracked"), ("UnbornBellsModel", 118, "frost"), ("UnbornBellsModel", 131, "come"), ("UnbornBellsModel", 133, "slack"), ("UnbornBellsModel", 135, "clear"), ("UnbornBellsModel", 137, "days"), ("UnbornBellsModel", 139, "day")]
def iv_len : List Nat := [108, 10, 4, 2, 3, 4, 2, 3, 3, 4, 3, 4, 7, 6, 5, 4, 7, 5, 4, 5, 5, 4, 3]
def iv_byt : List (List Int32) := [[114, 105, 110, 103, 32, 97, 116, 32, 102, 111, 114, 32, 108, 111, 117, 100, 32, 99, 111, 109, 101, 32, 115, 108, 97, 99, 107, 32, 119, 104, 101, 110, 32, 111, 114, 32, 97, 110, 100, 32, 110, 111, 116, 32, 119, 101, 105, 103, 104, 116, 32, 112, 105, 116, 99, 104, 32, 104, 111, 112, 101, 32, 99, 114, 97, 99, 107, 101, 100, 32, 102, 114, 111, 115, 116, 32, 102, 97, 114, 32, 104, 111, 117, 114, 32, 109, 117, 102, 102, 108, 101, 100, 32, 99, 108, 101, 97, 114, 32, 100, 97, 121, 115, 32, 100, 97, 121, 32], [59, 43, 45, 42, 47, 40, 41, 60, 61, 62], [114, 105, 110, 103], [97, 116], [102, 111, 114], [119, 104, 101, 110], [111, 114], [97, 110, 100], [110, 111, 116], [108, 111, 117, 100], [102, 97, 114], [104, 111, 117, 114], [109, 117, 102, 102, 108, 101, 100], [119, 101, 105, 103, 104, 116], [112, 105, 116, 99, 104], [104, 111, 112, 101], [99, 114, 97, 99, 107, 101, 100], [102, 114, 111, 115, 116], [99, 111, 109, 101], [115, 108, 97, 99, 107], [99, 108, 101, 97, 114], [100, 97, 121, 115], [100, 97, 121]]
/-- three words of the tables that are not kept by words alone: they hold of a state -/
def iv_N3 (U : State) : Prop := va_Nw (.castable "[I" "java/lang/Cloneable") U ∧ va_AO "UnbornBells$Bell" U ∧ (Cond.arrayOver (.array .int)).before #[] U = true
theorem iv_N3.moved {u U : State} (hal : u.vm.Alike U.vm) (h : iv_N3 u) : iv_N3 U := ⟨va_tabs rfl (rfl : (u.setVm U.vm).vm = U.vm) (by rw [Cond.castable_setVm hal]; exact h.1), va_AO.moved hal h.2.1, over_moved hal h.2.2⟩
/-- the formatter that a check of an index is handed: the tables say 'a reference or null' of it -/
def iv_fv (D : va_G) : Value := if D.2 102 1 = 0 then .null else .ref (D.2 102 0)
theorem iv_fv_or (D : va_G) : iv_fv D = .null ∨ ∃ t : Nat, iv_fv D = .ref t := by
  unfold iv_fv
  split
  · exact Or.inl rfl
  · exact Or.inr ⟨_, rfl⟩
def iv_N (base : Nat) (D : va_G) (U : State) : Prop := (∀ q ∈ iv_nest, va_Nw (.methodLinkNest q.1 q.2.1 q.2.2.1 q.2.2.2) U) ∧ vk_S 23 iv_len iv_byt (D.2 100) (D.2 101) (fun q => base ≤ q) U U.heap ∧ (∀ (i : Nat) (q : String × Nat × String), iv_str[i]? = some q → vk_R q.1 q.2.1 q.2.2 (D.2 100 i) U) ∧ va_Z "java/lang/String" "COMPACT_STRINGS" "Z" (.int 1) (fun q => base ≤ q) U U.heap ∧ va_Z "jdk/internal/util/Preconditions" "SIOOBE_FORMATTER" "Ljava/util/function/BiFunction;" (iv_fv D) (fun q => base ≤ q) U U.heap ∧ iv_N3 U
theorem iv_N.same {base : Nat} {D : va_G} {u U : State} (h : u.vm = U.vm) (hh : U.heap = u.heap) (hN : iv_N base D u) : iv_N base D U := by
  refine ⟨fun q hq => va_Nw.same rfl h (hN.1 q hq), ?_, fun i q hq => vk_R.same h.symm (hN.2.2.1 i q hq), ?_, ?_, iv_N3.moved (by rw [h]; exact Vm.Alike.refl U.vm) hN.2.2.2.2.2⟩
  · rw [hh]
    exact vk_S.moved (by rw [h]; exact Vm.Alike.refl U.vm) hN.2.1
  · rw [hh]
    exact va_Z.moved (by rw [h]; exact Vm.Alike.refl U.vm) hN.2.2.2.1
  · rw [hh]
    exact va_Z.moved (by rw [h]; exact Vm.Alike.refl U.vm) hN.2.2.2.2.1
theorem iv_N.warm {base : Nat} {D : va_G} {s U : State} {H : Heap} {locs : List Loc} (hW : s.WarmedH U.vm) (hS : va_S (fun q => base ≤ q) s.heap H locs) (hU : U.heap = H) (hN : iv_N base D s) : iv_N base D U := by
  subst hU
  exact ⟨fun q hq => va_Nw.warmM hW (hN.1 q hq), vk_S.moved hW.alike (vk_S.kept hN.2.1 hS.2.1), fun i q hq => vk_R.warm hW (hN.2.2.1 i q hq), va_Z.moved hW.alike (va_Z.kept hN.2.2.2.1 hS.2.1), va_Z.moved hW.alike (va_Z.kept hN.2.2.2.2.1 hS.2.1), iv_N3.moved hW.alike hN.2.2.2.2.2⟩
theorem k_mn_X5_56 {base : Nat} {D : va_G} {U : State} (h : iv_N base D U) : va_Nw (.methodLinkNest RX5 56 yX1_init "UnbornBells") U := h.1 (RX5, 56, yX1_init, "UnbornBells") (List.mem_of_getElem? (i := 0) rfl)
theorem k_mn_X11_21 {base : Nat} {D : va_G} {U : State} (h : iv_N base D U) : va_Nw (.methodLinkNest RX11 21 yX6_init "UnbornBells") U := h.1 (RX11, 21, yX6_init, "UnbornBells") (List.mem_of_getElem? (i := 1) rfl)
theorem k_mn_X11_32 {base : Nat} {D : va_G} {U : State} (h : iv_N base D U) : va_Nw (.methodLinkNest RX11 32 yX7_init "UnbornBells") U := h.1 (RX11, 32, yX7_init, "UnbornBells") (List.mem_of_getElem? (i := 2) rfl)
theorem k_mn_X7_11 {base : Nat} {D : va_G} {U : State} (h : iv_N base D U) : va_Nw (.methodLinkNest RX7 11 yX10_init "UnbornBells") U := h.1 (RX7, 11, yX10_init, "UnbornBells") (List.mem_of_getElem? (i := 3) rfl)
theorem k_mn_X8_26 {base : Nat} {D : va_G} {U : State} (h : iv_N base D U) : va_Nw (.methodLinkNest RX8 26 yX11_isWithin "UnbornBells") U := h.1 (RX8, 26, yX11_isWithin, "UnbornBells") (List.mem_of_getElem? (i := 4) rfl)
theorem k_mn_X5_106 {base : Nat} {D : va_G} {U : State} (h : iv_N base D U) : va_Nw (.methodLinkNest RX5 106 yX11_isTower "UnbornBells") U := h.1 (RX5, 106, yX11_isTower, "UnbornBells") (List.mem_of_getElem? (i := 5) rfl)
theorem k_mn_X7_101 {base : Nat} {D : va_G} {U : State} (h : iv_N base D U) : va_Nw (.methodLinkNest RX7 101 yX11_isWithin "UnbornBells") U := h.1 (RX7, 101, yX11_isWithin, "UnbornBells") (List.mem_of_getElem? (i := 6) rfl)
theorem k_mn_X4_29 {base : Nat} {D : va_G} {U : State} (h : iv_N base D U) : va_Nw (.methodLinkNest RX4 29 yX11_isWithin "UnbornBells") U := h.1 (RX4, 29, yX11_isWithin, "UnbornBells") (List.mem_of_getElem? (i := 7) rfl)
theorem k_mn_X9_118 {base : Nat} {D : va_G} {U : State} (h : iv_N base D U) : va_Nw (.methodLinkNest RX9 118 yX11_isWithin "UnbornBells") U := h.1 (RX9, 118, yX11_isWithin, "UnbornBells") (List.mem_of_getElem? (i := 8) rfl)
def iv_R (lo hi : Int) (x : Int32) : Prop := lo ≤ x.toInt ∧ x.toInt ≤ hi
def iv_v (k : iv_K) (j : Nat) (t : iv_T) : Value := match t with
  | .inl _ => .int (k.2.1 j)
  | .inr _ => .ref (k.2.2 j)
def iv_ok (G : iv_G) (k : iv_K) (j : Nat) (t : iv_T) : Prop := match t with
  | .inl r => iv_R r.1 r.2 (k.2.1 j)
  | .inr cd => ∃ k' : iv_K, G (k.2.2 j) = some k' ∧ k'.1 = cd
def iv_C (sh : Nat → iv_Sh) (D : va_G) (cl : List vw_C) (tys : List (ClassId × FieldType)) (G : iv_G) (k : iv_K) (a : Nat) (H : Heap) : Prop := match sh k.1 with
  | .inl o => ∃ r : vw_C, cl[o.1]? = some r ∧ t_OB a (D.1 o.1) r.2.2 (D.2 o.1) H (fun j => iv_v k j (o.2 k j)) ∧ ∀ j, j < r.2.2 → iv_ok G k j (o.2 k j)
  | .inr (.inl r) => ∃ cA : ClassId, tys[0]? = some (cA, .int) ∧ H[a]? = some (vp_cell cA (r.1, .inl k.2.1)) ∧ r.2 k.2.1
  | .inr (.inr r) => ∃ (cA : ClassId) (ty : FieldType), tys[r.1]? = some (cA, ty) ∧ ty.isReference = true ∧ H[a]? = some (vp_cell cA (r.2.1, .inr (.inr (.inr (.inr (fun i => some (k.2.2 i))))))) ∧ ∀ i, i < r.2.1 → ∃ k' : iv_K, G (k.2.2 i) = some k' ∧ k'.1 = r.2.2
def iv_I (sh : Nat → iv_Sh) (D : va_G) (cl : List vw_C) (tys : List (ClassId × FieldType)) (base : Nat) (G : iv_G) (H : Heap) : Prop := ∀ (a : Nat) (k : iv_K), G a = some k → base ≤ a ∧ iv_C sh D cl tys G k a H
abbrev iv_A (base : Nat) : Nat → Prop := fun q => base ≤ q
def iv_B (sh : Nat → iv_Sh) (D : va_G) (cl : List vw_C) (tys : List (ClassId × FieldType)) (base : Nat) (G : iv_G) (H0 H : Heap) (locs : List Loc) : Prop := iv_I sh D cl tys base G H ∧ va_S (iv_A base) H0 H locs ∧ base ≤ H0.size
def iv_X (p : Program) (m : MethodId) (c : Code) (cc : ByteArray) (nL : Nat) (s : State) (args : Array Value) (Ts : List Cond) (own : String) (D : va_G) (cl : List vw_C) (tys : List (ClassId × FieldType)) (base : Nat) : Prop := CallFix p m c cc nL s args Ts own ∧ va_K D cl tys s ∧ iv_N base D s
/-- a class's tables, once -/
def iv_FT (cl : List vw_C) (W0 : List Cond) (ci : Nat) (C : String) (T : u_T) (N : Nat) (ty : Nat → FieldType) : Prop := cl[ci]? = some (C, T, N) ∧ (∀ w ∈ u_ws C T N, w ∈ W0) ∧ (∀ k, k < N → parseFieldDescriptor (T k).2.2.1 = some (ty k)) ∧ ∀ a, a < N → ∀ b, b < N → a ≠ b → (T a).2.1 ≠ (T b).2.1
/-- the store changed at one address, its code kept -/
def iv_up (G : iv_G) (a : Nat) (k : iv_K) : iv_G := fun b => if b = a then some k else G b
theorem iv_up_eq {G : iv_G} {a : Nat} {k : iv_K} : iv_up G a k a = some k := if_pos rfl
theorem iv_up_ne {G : iv_G} {a b : Nat} {k : iv_K} (h : b ≠ a) : iv_up G a k b = G b := if_neg h
theorem iv_up_cd {G : iv_G} {a b : Nat} {ka k kb : iv_K} (ha : G a = some ka) (hb : G b = some kb) (hne : kb.1 ≠ ka.1) : iv_up G a k b = some kb := by
  rw [iv_up_ne (fun e => hne (by subst e; cases ha.symm.trans hb; rfl)), hb]
theorem iv_up_pres {G : iv_G} {a b : Nat} {ka k kb : iv_K} (ha : G a = some ka) (hc : k.1 = ka.1) (hb : G b = some kb) : ∃ k' : iv_K, iv_up G a k b = some k' ∧ k'.1 = kb.1 := by
  by_cases e : b = a
  · subst e
    cases ha.symm.trans hb
    exact ⟨k, iv_up_eq, hc⟩
  · exact ⟨kb, (iv_up_ne e).trans hb, rfl⟩
theorem iv_ok_mono {G G' : iv_G} (h : ∀ (b : Nat) (kb : iv_K), G b = some kb → ∃ k' : iv_K, G' b = some k' ∧ k'.1 = kb.1) {k : iv_K} {j : Nat} {t : iv_T} (hk : iv_ok G k j t) : iv_ok G' k j t := by
  cases t with
  | inl r => exact hk
  | inr cd =>
    obtain ⟨k1, h1, h2⟩ := hk
    obtain ⟨k2, h3, h4⟩ := h _ _ h1
    exact ⟨k2, h3, h4.trans h2⟩
theorem iv_C_mono {sh : Nat → iv_Sh} {D : va_G} {cl : List vw_C} {tys : List (ClassId × FieldType)} {G G' : iv_G} (h : ∀ (b : Nat) (kb : iv_K), G b = some kb → ∃ k' : iv_K, G' b = some k' ∧ k'.1 = kb.1) {k : iv_K} {a : Nat} {H H' : Heap} (he : H'[a]? = H[a]?) (hk : iv_C sh D cl tys G k a H) : iv_C sh D cl tys G' k a H' := by
  unfold iv_C at hk ⊢
  cases hs : sh k.1 with
  | inl o =>
    rw [hs] at hk
    obtain ⟨r, h1, h2, h3⟩ := hk
    exact ⟨r, h1, h2.kept he, fun j hj => iv_ok_mono h (h3 j hj)⟩
  | inr q =>
    cases q with
    | inl r =>
      rw [hs] at hk
      obtain ⟨cA, h1, h2, h3⟩ := hk
      exact ⟨cA, h1, by rw [he]; exact h2, h3⟩
    | inr r =>
      rw [hs] at hk
      obtain ⟨cA, ty, h1, h2, h3, h4⟩ := hk
      refine ⟨cA, ty, h1, h2, by rw [he]; exact h3, fun i hi => ?_⟩
      obtain ⟨k1, g1, g2⟩ := h4 i hi
      obtain ⟨k2, g3, g4⟩ := h _ _ g1
      exact ⟨k2, g3, g4.trans g2⟩
/-- what a method may have done to the store: codes stay; cells of codes outside of S stay; the others as rel says -/
def iv_mod (rel : iv_K → iv_K → Prop) (S : List Nat) (G G' : iv_G) : Prop := ∀ (a : Nat) (k : iv_K), G a = some k → ∃ k' : iv_K, G' a = some k' ∧ k'.1 = k.1 ∧ (k.1 ∉ S → k' = k) ∧ rel k k'
theorem iv_mod.rf {rel : iv_K → iv_K → Prop} (hr : ∀ k, rel k k) {S : List Nat} {G : iv_G} : iv_mod rel S G G := fun _ k h => ⟨k, h, rfl, fun _ => rfl, hr k⟩
theorem iv_mod.tr {rel : iv_K → iv_K → Prop} (ht : ∀ a b c, b.1 = a.1 → rel a b → rel b c → rel a c) {S S1 S2 : List Nat} {G G1 G2 : iv_G} (h1 : iv_mod rel S1 G G1) (h2 : iv_mod rel S2 G1 G2) (s1 : ∀ x, x ∈ S1 → x ∈ S) (s2 : ∀ x, x ∈ S2 → x ∈ S) : iv_mod rel S G G2 := by
  intro a k h
  obtain ⟨k1, a1, a2, a3, a4⟩ := h1 a k h
  obtain ⟨k2, b1, b2, b3, b4⟩ := h2 a k1 a1
  refine ⟨k2, b1, b2.trans a2, fun hn => ?_, ht _ _ _ a2 a4 b4⟩
  have e1 := a3 (fun q => hn (s1 _ q))
  subst e1
  exact b3 (fun q => hn (s2 _ q))
theorem iv_mod.up {rel : iv_K → iv_K → Prop} (hrf : ∀ k, rel k k) {S : List Nat} {G : iv_G} {a : Nat} {ka k : iv_K} (ha : G a = some ka) (hc : k.1 = ka.1) (hS : ka.1 ∈ S) (hr : rel ka k) : iv_mod rel S G (iv_up G a k) := by
  intro b kb hb
  by_cases e : b = a
  · subst e
    cases ha.symm.trans hb
    exact ⟨k, iv_up_eq, hc, fun hn => absurd hS hn, hr⟩
  · exact ⟨kb, (iv_up_ne e).trans hb, rfl, fun _ => rfl, hrf kb⟩
theorem iv_mod.at {rel : iv_K → iv_K → Prop} {S : List Nat} {G G' : iv_G} (h : iv_mod rel S G G') {a : Nat} {cd : Nat} {g : Nat → Int32} {r : Nat → Nat} (ha : G a = some (cd, g, r)) (hn : cd ∉ S) : G' a = some (cd, g, r) := by
  obtain ⟨k', h1, -, h3, -⟩ := h a _ ha
  rw [h1, h3 hn]
theorem iv_mod.ex {rel : iv_K → iv_K → Prop} {S : List Nat} {G G' : iv_G} (h : iv_mod rel S G G') {a : Nat} {cd : Nat} {g : Nat → Int32} {r : Nat → Nat} (ha : G a = some (cd, g, r)) : ∃ (g' : Nat → Int32) (r' : Nat → Nat), G' a = some (cd, g', r') ∧ rel (cd, g, r) (cd, g', r') := by
  obtain ⟨⟨c', g', r'⟩, h1, h2, -, h4⟩ := h a _ ha
  have h2 : c' = cd := h2
  subst h2
  exact ⟨g', r', h1, h4⟩
/-! numbers in bounds -/
theorem iv_R.all (x : Int32) : iv_R (-2147483648) 2147483647 x := ⟨by have := Int32.le_toInt x; omega, by have := Int32.toInt_lt x; omega⟩
theorem iv_lit {x : Int32} {n : Int} (h : x.toInt = n) : iv_R n n x := ⟨by omega, by omega⟩
theorem iv_R.wk {a b a' b' : Int} {x : Int32} (h : iv_R a b x) (e : a' ≤ a ∧ b ≤ b') : iv_R a' b' x := ⟨Int.le_trans e.1 h.1, Int.le_trans h.2 e.2⟩
theorem iv_R.cutHi {a b n : Int} {x : Int32} (h : iv_R a b x) (c : x.toInt ≤ n) : iv_R a n x := ⟨h.1, c⟩
theorem iv_R.cutLo {a b n : Int} {x : Int32} (h : iv_R a b x) (c : n ≤ x.toInt) : iv_R n b x := ⟨c, h.2⟩
theorem iv_R.no {a b : Int} {x : Int32} (h : iv_R a b x) (e : b < a) {P : Prop} : P := absurd (Int.lt_of_le_of_lt (Int.le_trans h.1 h.2) e) (Int.lt_irrefl _)
theorem iv_lt_r {x y : Int32} {c d n : Int} (h : x < y) (hy : iv_R c d y) (e : d ≤ n + 1) : x.toInt ≤ n := by
  have := Int32.lt_iff_toInt_lt.mp h
  have := hy.2
  omega
theorem iv_lt_l {x y : Int32} {a b n : Int} (h : x < y) (hx : iv_R a b x) (e : n ≤ a + 1) : n ≤ y.toInt := by
  have := Int32.lt_iff_toInt_lt.mp h
  have := hx.1
  omega
theorem iv_le_r {x y : Int32} {c d : Int} (h : x ≤ y) (hy : iv_R c d y) : x.toInt ≤ d := Int.le_trans (Int32.le_iff_toInt_le.mp h) hy.2
theorem iv_le_l {x y : Int32} {a b : Int} (h : x ≤ y) (hx : iv_R a b x) : a ≤ y.toInt := Int.le_trans hx.1 (Int32.le_iff_toInt_le.mp h)
theorem iv_nlt {x y : Int32} (h : ¬ x < y) : y ≤ x := Int32.not_lt.mp h
theorem iv_nle {x y : Int32} (h : ¬ x ≤ y) : y < x := Int32.not_le.mp h
theorem iv_eq_r {x y : Int32} {c d : Int} (h : x = y) (hy : iv_R c d y) : iv_R c d x := h ▸ hy
theorem iv_ne_lo {x y : Int32} {a b a' : Int} (h : ¬ x = y) (hx : iv_R a b x) (hy : iv_R a a y) (e : a' ≤ a + 1) : iv_R a' b x := by
  have h1 : x.toInt ≠ y.toInt := fun q => h (Int32.toInt_inj.mp q)
  obtain ⟨p1, p2⟩ := hx
  obtain ⟨q1, q2⟩ := hy
  exact ⟨by omega, p2⟩
theorem iv_ne_hi {x y : Int32} {a b b' : Int} (h : ¬ x = y) (hx : iv_R a b x) (hy : iv_R b b y) (e : b ≤ b' + 1) : iv_R a b' x := by
  have h1 : x.toInt ≠ y.toInt := fun q => h (Int32.toInt_inj.mp q)
  obtain ⟨p1, p2⟩ := hx
  obtain ⟨q1, q2⟩ := hy
  exact ⟨p1, by omega⟩
theorem iv_ti_add {x y : Int32} (h1 : -2147483648 ≤ x.toInt + y.toInt) (h2 : x.toInt + y.toInt ≤ 2147483647) : (x + y).toInt = x.toInt + y.toInt := by
  rw [Int32.toInt_add]
  exact Int.bmod_eq_of_le (by omega) (by omega)
theorem iv_ti_sub {x y : Int32} (h1 : -2147483648 ≤ x.toInt - y.toInt) (h2 : x.toInt - y.toInt ≤ 2147483647) : (x - y).toInt = x.toInt - y.toInt := by
  rw [Int32.toInt_sub]
  exact Int.bmod_eq_of_le (by omega) (by omega)
theorem iv_ti_mul {x y : Int32} (h1 : -2147483648 ≤ x.toInt * y.toInt) (h2 : x.toInt * y.toInt ≤ 2147483647) : (x * y).toInt = x.toInt * y.toInt := by
  rw [Int32.toInt_mul]
  exact Int.bmod_eq_of_le (by omega) (by omega)
theorem iv_in {i : Int32} {a b : Int} {n : Nat} (h : iv_R a b i) (e : 0 ≤ a ∧ b < (n : Int)) : vp_in i n := by
  intro q
  rcases q with q | q
  · have := Int32.lt_iff_toInt_lt.mp q
    rw [Int32.toInt_zero] at this
    have := h.1
    omega
  · have h1 := h.2
    have h2 := h.1
    have : i.toNatClampNeg = i.toInt.toNat := rfl
    omega
theorem iv_inN {i : Int32} {n : Nat} (h : vp_in i n) : i.toNatClampNeg < n := Nat.not_le.mp fun q => h (Or.inr q)
/-- a loop's measure -/
theorem iv_mup {x y : Int32} {a b M c : Int} {n : Nat} (hx : iv_R a b x) (e : b < M) (hc : 0 < c) (hy : y.toInt = x.toInt + c) (hn : (M - x.toInt).toNat < n + 1) : (M - y.toInt).toNat < n := by
  have := hx.2
  omega
theorem iv_mdn {x y : Int32} {a b M c : Int} {n : Nat} (hx : iv_R a b x) (e : M < a) (hc : 0 < c) (hy : y.toInt = x.toInt - c) (hn : (x.toInt - M).toNat < n + 1) : (y.toInt - M).toNat < n := by
  have := hx.1
  omega
section IV
variable {p : Program} {l : Launch} {e : Env} {R : Room} {s : State} {m : MethodId} {args : Array Value} {below : List Frame} {meth : Method} {c : Code} {H : Heap} {locs : List Loc} {cells slots : Nat} {Q : State → Prop}
variable {cc : ByteArray} {nL pc : Nat} {ls : Array Slot} {rest : List Value} {D : va_G} {cl : List vw_C} {tys : List (ClassId × FieldType)} {base : Nat} {G : iv_G} {H0 : Heap} {a b : Nat} {W0 : List Cond} {own : String} {sh : Nat → iv_Sh}
theorem iv_iadd (hx : p.tables.exec = Jvm.exec) (hb : c.code = cc) {x y : Int32} {a b c' d lo hi : Int} (h1 : iv_R a b x) (h2 : iv_R c' d y) (e' : -2147483648 ≤ a + c' ∧ b + d ≤ 2147483647 ∧ lo ≤ a + c' ∧ b + d ≤ hi) (hdg : decode cc pc = .ok (.iadd, 1))
    (k : ∀ z : Int32, z.toInt = x.toInt + y.toInt → iv_R lo hi z → W p l e R s m args below meth c H locs cells slots Q (F0 m (pc + 1) ls (.int z :: rest))) : W p l e R s m args below meth c H locs cells slots Q (F0 m pc ls (.int y :: .int x :: rest)) := by
  have q1 := h1.1; have q2 := h1.2; have q3 := h2.1; have q4 := h2.2
  have t := iv_ti_add (x := x) (y := y) (by omega) (by omega)
  exact lv_iadd hx hb hdg (k _ t ⟨by omega, by omega⟩)
theorem iv_isub (hx : p.tables.exec = Jvm.exec) (hb : c.code = cc) {x y : Int32} {a b c' d lo hi : Int} (h1 : iv_R a b x) (h2 : iv_R c' d y) (e' : -2147483648 ≤ a - d ∧ b - c' ≤ 2147483647 ∧ lo ≤ a - d ∧ b - c' ≤ hi) (hdg : decode cc pc = .ok (.isub, 1))
    (k : ∀ z : Int32, z.toInt = x.toInt - y.toInt → iv_R lo hi z → W p l e R s m args below meth c H locs cells slots Q (F0 m (pc + 1) ls (.int z :: rest))) : W p l e R s m args below meth c H locs cells slots Q (F0 m pc ls (.int y :: .int x :: rest)) := by
  have q1 := h1.1; have q2 := h1.2; have q3 := h2.1; have q4 := h2.2
  have t := iv_ti_sub (x := x) (y := y) (by omega) (by omega)
  exact lv_isub hx hb hdg (k _ t ⟨by omega, by omega⟩)
/-- a product of numbers from 0 on -/
theorem iv_imul (hx : p.tables.exec = Jvm.exec) (hb : c.code = cc) {x y : Int32} {a b c' d lo hi : Int} (h1 : iv_R a b x) (h2 : iv_R c' d y) (e' : 0 ≤ a ∧ 0 ≤ c' ∧ b * d ≤ 2147483647 ∧ lo ≤ a * c' ∧ b * d ≤ hi) (hdg : decode cc pc = .ok (.imul, 1))
    (k : ∀ z : Int32, z.toInt = x.toInt * y.toInt → iv_R lo hi z → W p l e R s m args below meth c H locs cells slots Q (F0 m (pc + 1) ls (.int z :: rest))) : W p l e R s m args below meth c H locs cells slots Q (F0 m pc ls (.int y :: .int x :: rest)) := by
  obtain ⟨e1, e2, e3, e4, e5⟩ := e'
  have u1 : a * c' ≤ x.toInt * y.toInt := Int.mul_le_mul h1.1 h2.1 e2 (Int.le_trans e1 h1.1)
  have u2 : x.toInt * y.toInt ≤ b * d := Int.mul_le_mul h1.2 h2.2 (Int.le_trans e2 h2.1) (Int.le_trans e1 (Int.le_trans h1.1 h1.2))
  have u0 : 0 ≤ a * c' := Int.mul_nonneg e1 e2
  have t := iv_ti_mul (x := x) (y := y) (by omega) (by omega)
  exact lv_imul hx hb hdg (k _ t ⟨by omega, by omega⟩)
theorem iv_iinc (hx : p.tables.exec = Jvm.exec) (hb : c.code = cc) {i k : Nat} {n : Int} {x : Int32} {lv : List (Nat × Value)} {a b lo hi : Int} (h1 : iv_R a b x) (e' : (Int32.ofInt n).toInt = n ∧ -2147483648 ≤ a + n ∧ b + n ≤ 2147483647 ∧ lo ≤ a + n ∧ b + n ≤ hi) (hdg : decode cc pc = .ok (.iinc i n, 3)) (h : lv_has ls nL lv) (hk : lv[k]? = some (i, .int x)) (hn : i < nL)
    (kk : ∀ (z : Int32) (ls' : Array Slot), z.toInt = x.toInt + n → iv_R lo hi z → lv_has ls' nL ((i, Value.int z) :: lv.filter (fun q => !(q.1 == i) && !(q.1 + 1 == i && q.2.category == 2))) → W p l e R s m args below meth c H locs cells slots Q (F0 m (pc + 3) ls' rest)) : W p l e R s m args below meth c H locs cells slots Q (F0 m pc ls rest) := by
  have q1 := h1.1; have q2 := h1.2
  obtain ⟨e0, e1, e2, e3, e4⟩ := e'
  have t := iv_ti_add (x := x) (y := Int32.ofInt n) (by omega) (by omega)
  exact lv_iinc (v := x + Int32.ofInt n) hx hb hdg h hk rfl hn rfl (fun ls' hl => kk _ ls' (by omega) ⟨by omega, by omega⟩ hl)
theorem iv_B.got (hB : iv_B sh D cl tys base G H0 H locs) {cd : Nat} {g : Nat → Int32} {r : Nat → Nat} (ha : G a = some (cd, g, r)) : iv_C sh D cl tys G (cd, g, r) a H := (hB.1 a _ ha).2
theorem iv_C.obj {cd ci : Nat} {g : Nat → Int32} {r : Nat → Nat} {ts : iv_K → Nat → iv_T} (h : iv_C sh D cl tys G (cd, g, r) a H) (hsh : sh cd = .inl (ci, ts)) : ∃ q : vw_C, cl[ci]? = some q ∧ t_OB a (D.1 ci) q.2.2 (D.2 ci) H (fun j => iv_v (cd, g, r) j (ts (cd, g, r) j)) ∧ ∀ j, j < q.2.2 → iv_ok G (cd, g, r) j (ts (cd, g, r) j) := by
  unfold iv_C at h
  rw [hsh] at h
  exact h
theorem iv_C.arr {cd n : Nat} {g : Nat → Int32} {r : Nat → Nat} {P : (Nat → Int32) → Prop} (h : iv_C sh D cl tys G (cd, g, r) a H) (hsh : sh cd = .inr (.inl (n, P))) : ∃ cA : ClassId, tys[0]? = some (cA, .int) ∧ H[a]? = some (vp_cell cA (n, .inl g)) ∧ P g := by
  unfold iv_C at h
  rw [hsh] at h
  exact h
theorem iv_C.rar {cd t0 n cd' : Nat} {g : Nat → Int32} {r : Nat → Nat} (h : iv_C sh D cl tys G (cd, g, r) a H) (hsh : sh cd = .inr (.inr (t0, n, cd'))) : ∃ (cA : ClassId) (ty : FieldType), tys[t0]? = some (cA, ty) ∧ ty.isReference = true ∧ H[a]? = some (vp_cell cA (n, .inr (.inr (.inr (.inr (fun i => some (r i))))))) ∧ ∀ i, i < n → ∃ k' : iv_K, G (r i) = some k' ∧ k'.1 = cd' := by
  unfold iv_C at h
  rw [hsh] at h
  exact h
/-- a getfield's core -/
theorem iv_getV (X : iv_X p m c cc nL s args W0 own D cl tys base) {ci N index : Nat} {C : String} {T : u_T} {ty : Nat → FieldType} (F : iv_FT cl W0 ci C T N ty) {V : Nat → Value} (hO : t_OB a (D.1 ci) N (D.2 ci) H V) (j : Nat) (hj : j < N) (hlink : Cond.fieldLink own index (T j).1 (T j).2.1 (T j).2.2.1 ∈ W0) (hdg : decode cc pc = .ok (.getfield index, 3))
    (kk : W p l e R s m args below meth c H locs cells slots Q (F0 m (pc + 3) ls (V j :: rest))) : W p l e R s m args below meth c H locs cells slots Q (F0 m pc ls (.ref a :: rest)) := by
  obtain ⟨⟨hexec, hb, hml, hown, hts⟩, hK, hN⟩ := X
  obtain ⟨hc, hin, hty, hnm⟩ := F
  obtain ⟨cell, q1, q2, q3, q4⟩ := hO
  obtain ⟨hS, hfc, kC, hkC, hkind⟩ := hK.1 ci _ hc
  obtain ⟨cf, kf, fi, f, hi, hsl⟩ := hS j hj
  exact W.getf hexec hb hown (hts _ hlink) hi (u_facts hfc hkC (u_lays hts hin hj) hi).1 q1 (by rw [q3]; exact fun h => by cases h) (v := V j) (by rw [hsl, q4 j hj]) rfl rfl hdg kk
theorem iv_geti (X : iv_X p m c cc nL s args W0 own D cl tys base) {ci N index cd : Nat} {C : String} {T : u_T} {ty : Nat → FieldType} (F : iv_FT cl W0 ci C T N ty) (hB : iv_B sh D cl tys base G H0 H locs) {g : Nat → Int32} {r : Nat → Nat} (ha : G a = some (cd, g, r)) {ts : iv_K → Nat → iv_T} (hsh : sh cd = .inl (ci, ts)) (j : Nat) (hj : j < N) {lo hi : Int} (ht : ts (cd, g, r) j = .inl (lo, hi)) (hlink : Cond.fieldLink own index (T j).1 (T j).2.1 (T j).2.2.1 ∈ W0) (hdg : decode cc pc = .ok (.getfield index, 3))
    (kk : ∀ x : Int32, x = g j → iv_R lo hi x → W p l e R s m args below meth c H locs cells slots Q (F0 m (pc + 3) ls (.int x :: rest))) : W p l e R s m args below meth c H locs cells slots Q (F0 m pc ls (.ref a :: rest)) := by
  obtain ⟨q, h1, h2, h3⟩ := (hB.got ha).obj hsh
  have hq : q = (C, T, N) := Option.some.inj (h1.symm.trans F.1)
  subst hq
  have h4 := h3 j hj
  rw [ht] at h4
  refine iv_getV X F h2 j hj hlink hdg ?_
  rw [ht]
  exact kk _ rfl h4
/-- the same number again -/
theorem iv_geti0 (X : iv_X p m c cc nL s args W0 own D cl tys base) {ci N index cd : Nat} {C : String} {T : u_T} {ty : Nat → FieldType} (F : iv_FT cl W0 ci C T N ty) (hB : iv_B sh D cl tys base G H0 H locs) {g : Nat → Int32} {r : Nat → Nat} (ha : G a = some (cd, g, r)) {ts : iv_K → Nat → iv_T} (hsh : sh cd = .inl (ci, ts)) (j : Nat) (hj : j < N) {lo hi : Int} (ht : ts (cd, g, r) j = .inl (lo, hi)) (hlink : Cond.fieldLink own index (T j).1 (T j).2.1 (T j).2.2.1 ∈ W0) (hdg : decode cc pc = .ok (.getfield index, 3)) {x : Int32} (ex : x = g j)
    (kk : W p l e R s m args below meth c H locs cells slots Q (F0 m (pc + 3) ls (.int x :: rest))) : W p l e R s m args below meth c H locs cells slots Q (F0 m pc ls (.ref a :: rest)) :=
  iv_geti X F hB ha hsh j hj ht hlink hdg (fun y hy _ => by rw [hy, ← ex]; exact kk)
theorem iv_getr (X : iv_X p m c cc nL s args W0 own D cl tys base) {ci N index cd : Nat} {C : String} {T : u_T} {ty : Nat → FieldType} (F : iv_FT cl W0 ci C T N ty) (hB : iv_B sh D cl tys base G H0 H locs) {g : Nat → Int32} {r : Nat → Nat} (ha : G a = some (cd, g, r)) {ts : iv_K → Nat → iv_T} (hsh : sh cd = .inl (ci, ts)) (j : Nat) (hj : j < N) {cd' : Nat} (ht : ts (cd, g, r) j = .inr cd') (hlink : Cond.fieldLink own index (T j).1 (T j).2.1 (T j).2.2.1 ∈ W0) (hdg : decode cc pc = .ok (.getfield index, 3))
    (kk : ∀ (b : Nat) (g' : Nat → Int32) (r' : Nat → Nat), b = r j → G b = some (cd', g', r') → W p l e R s m args below meth c H locs cells slots Q (F0 m (pc + 3) ls (.ref b :: rest))) : W p l e R s m args below meth c H locs cells slots Q (F0 m pc ls (.ref a :: rest)) := by
  obtain ⟨q, h1, h2, h3⟩ := (hB.got ha).obj hsh
  have hq : q = (C, T, N) := Option.some.inj (h1.symm.trans F.1)
  subst hq
  have h4 := h3 j hj
  rw [ht] at h4
  refine iv_getV X F h2 j hj hlink hdg ?_
  rw [ht]
  obtain ⟨⟨c', g', r'⟩, h5, h6⟩ := h4
  have h6 : c' = cd' := h6
  subst h6
  exact kk _ g' r' rfl h5
theorem iv_getr0 (X : iv_X p m c cc nL s args W0 own D cl tys base) {ci N index cd : Nat} {C : String} {T : u_T} {ty : Nat → FieldType} (F : iv_FT cl W0 ci C T N ty) (hB : iv_B sh D cl tys base G H0 H locs) {g : Nat → Int32} {r : Nat → Nat} (ha : G a = some (cd, g, r)) {ts : iv_K → Nat → iv_T} (hsh : sh cd = .inl (ci, ts)) (j : Nat) (hj : j < N) {cd' : Nat} (ht : ts (cd, g, r) j = .inr cd') (hlink : Cond.fieldLink own index (T j).1 (T j).2.1 (T j).2.2.1 ∈ W0) (hdg : decode cc pc = .ok (.getfield index, 3)) {b : Nat} (eb : b = r j)
    (kk : W p l e R s m args below meth c H locs cells slots Q (F0 m (pc + 3) ls (.ref b :: rest))) : W p l e R s m args below meth c H locs cells slots Q (F0 m pc ls (.ref a :: rest)) :=
  iv_getr X F hB ha hsh j hj ht hlink hdg (fun b' _ _ hb' _ => by rw [hb', ← eb]; exact kk)
theorem iv_B.put (hB : iv_B sh D cl tys base G H0 H locs) {ka k : iv_K} (ha : G a = some ka) (hc : k.1 = ka.1) {H1 : Heap} (z : H1.size = H.size) (o : ∀ q : Nat, q ≠ a → H1[q]? = H[q]?) (hC : iv_C sh D cl tys (iv_up G a k) k a H1) {i : Nat} : iv_B sh D cl tys base (iv_up G a k) H0 H1 (locs ++ [⟨a, i⟩]) := by
  refine ⟨fun b kb hb => ?_, hB.2.1.put z o (hB.1 a _ ha).1, hB.2.2⟩
  by_cases e : b = a
  · subst e
    rw [iv_up_eq] at hb
    cases hb
    exact ⟨(hB.1 b _ ha).1, hC⟩
  · rw [iv_up_ne e] at hb
    exact ⟨(hB.1 b _ hb).1, iv_C_mono (fun b' kb' h' => iv_up_pres ha hc h') (o b e) (hB.1 b _ hb).2⟩
/-- a putfield's core -/
theorem iv_putV (X : iv_X p m c cc nL s args W0 own D cl tys base) {ci N index : Nat} {C : String} {T : u_T} {ty : Nat → FieldType} (F : iv_FT cl W0 ci C T N ty) {V : Nat → Value} (hO : t_OB a (D.1 ci) N (D.2 ci) H V) (j : Nat) (hj : j < N) (hlink : Cond.fieldLink own index (T j).1 (T j).2.1 (T j).2.2.1 ∈ W0) (hfin : (T j).2.2.2 = false) {v : Value} (hn : narrow (ty j) v = v) (hfit : fits (ty j) v = true) (hdg : decode cc pc = .ok (.putfield index, 3))
    (kk : ∀ (H1 : Heap) (i : Nat), t_OB a (D.1 ci) N (D.2 ci) H1 (updV V j v) → H1.size = H.size → (∀ q : Nat, q ≠ a → H1[q]? = H[q]?) → W p l e R s m args below meth c H1 (locs ++ [⟨a, i⟩]) cells slots Q (F0 m (pc + 3) ls rest)) : W p l e R s m args below meth c H locs cells slots Q (F0 m pc ls (v :: .ref a :: rest)) := by
  obtain ⟨⟨hexec, hb, hml, hown, hts⟩, hK, hN⟩ := X
  obtain ⟨hc, hin, hty, hnm⟩ := F
  have hin' : ∀ w ∈ u_ws C T N, w.before args s = true := fun w hw => hts w (hin w hw)
  have hap := va_apart (own := own) hts hin ty hty hnm hK hc
  obtain ⟨cell, q1, q2, q3, q4⟩ := hO
  obtain ⟨hS, hfc, kC, hkC, hkind⟩ := hK.1 ci _ hc
  obtain ⟨cf, kf, fi, f, hi, hsl⟩ := hS j hj
  have hlay := hts _ (hin _ (u_in_lay hj))
  unfold u_lay at hlay
  rw [if_neg (by rw [hfin]; decide)] at hlay
  have hst := (u_facts hfc hkC (u_lays hts hin hj) hi).1
  have h6 := u_store hfc hkC hkind hlay hi (hty j hj) hn hfit
  refine W.putK hexec hb (f := f) ⟨hown, hts _ hlink, ⟨_, _, _, hi⟩, hst⟩ (by rw [q2]; exact h6) q1 q3 (by rw [hsl]; exact k2_hasslot (q4 j hj)) rfl rfl hdg fun H' e1 e2 e3 => ?_
  rw [hsl] at e1 ⊢
  exact kk H' _ ⟨_, e1, q2, q3, t_set q4 hap hj v⟩ e2 e3
def iv_ur (r : Nat → Nat) (j b : Nat) : Nat → Nat := fun i => if i = j then b else r i
theorem iv_puti (X : iv_X p m c cc nL s args W0 own D cl tys base) {ci N index cd : Nat} {C : String} {T : u_T} {ty : Nat → FieldType} (F : iv_FT cl W0 ci C T N ty) (hB : iv_B sh D cl tys base G H0 H locs) {g : Nat → Int32} {r : Nat → Nat} (ha : G a = some (cd, g, r)) {ts : iv_K → Nat → iv_T} (hsh : sh cd = .inl (ci, ts)) (j : Nat) (hj : j < N) {x : Int32} (hti : ts (cd, upd g j x, r) = ts (cd, g, r)) {lo hi : Int} (ht : ts (cd, g, r) j = .inl (lo, hi)) (hlink : Cond.fieldLink own index (T j).1 (T j).2.1 (T j).2.2.1 ∈ W0) (hfin : (T j).2.2.2 = false) (hv : iv_R lo hi x) (hn : narrow (ty j) (.int x) = .int x) (hfit : fits (ty j) (.int x) = true) (hdg : decode cc pc = .ok (.putfield index, 3))
    (kk : ∀ (H1 : Heap) (locs1 : List Loc), iv_B sh D cl tys base (iv_up G a (cd, upd g j x, r)) H0 H1 locs1 → W p l e R s m args below meth c H1 locs1 cells slots Q (F0 m (pc + 3) ls rest)) : W p l e R s m args below meth c H locs cells slots Q (F0 m pc ls (.int x :: .ref a :: rest)) := by
  obtain ⟨q, h1, h2, h3⟩ := (hB.got ha).obj hsh
  have hq : q = (C, T, N) := Option.some.inj (h1.symm.trans F.1)
  subst hq
  refine iv_putV X F h2 j hj hlink hfin hn hfit hdg fun H1 i hO z o => ?_
  refine kk H1 _ (hB.put (k := (cd, upd g j x, r)) ha rfl z o ?_)
  unfold iv_C
  show match sh cd with | .inl _ => _ | .inr (.inl _) => _ | .inr (.inr _) => _
  rw [hsh]
  refine ⟨_, h1, hO.to (fun i hi9 => ?_), fun i hi9 => ?_⟩
  · show _ = iv_v _ _ (ts _ i)
    rw [hti]
    by_cases e : i = j
    · subst e
      rw [ht]
      simp [updV, iv_v, upd]
    · cases h : ts (cd, g, r) i <;> simp [updV, iv_v, upd, e, h]
  · show iv_ok _ _ _ (ts _ i)
    rw [hti]
    refine iv_ok_mono (G := G) (G' := iv_up G a (cd, upd g j x, r)) (fun b' kb' h' => iv_up_pres ha rfl h') ?_
    have h4 := h3 i hi9
    by_cases e : i = j
    · subst e
      rw [ht]
      show iv_R lo hi (upd g i x i)
      simp only [upd, if_pos]
      exact hv
    · cases h : ts (cd, g, r) i with
      | inl w =>
        rw [h] at h4
        show iv_R w.1 w.2 (upd g j x i)
        simp only [upd, if_neg e]
        exact h4
      | inr w =>
        rw [h] at h4
        exact h4
theorem iv_putr (X : iv_X p m c cc nL s args W0 own D cl tys base) {ci N index cd : Nat} {C : String} {T : u_T} {ty : Nat → FieldType} (F : iv_FT cl W0 ci C T N ty) (hB : iv_B sh D cl tys base G H0 H locs) {g : Nat → Int32} {r : Nat → Nat} (ha : G a = some (cd, g, r)) {ts : iv_K → Nat → iv_T} (hsh : sh cd = .inl (ci, ts)) (j : Nat) (hj : j < N) {b : Nat} (hti : ts (cd, g, iv_ur r j b) = ts (cd, g, r)) {cd' : Nat} (ht : ts (cd, g, r) j = .inr cd') (hlink : Cond.fieldLink own index (T j).1 (T j).2.1 (T j).2.2.1 ∈ W0) (hfin : (T j).2.2.2 = false) {kb : iv_K} (hv : G b = some kb) (hv1 : kb.1 = cd') (hn : narrow (ty j) (.ref b) = .ref b) (hfit : fits (ty j) (.ref b) = true) (hdg : decode cc pc = .ok (.putfield index, 3))
    (kk : ∀ (H1 : Heap) (locs1 : List Loc), iv_B sh D cl tys base (iv_up G a (cd, g, iv_ur r j b)) H0 H1 locs1 → W p l e R s m args below meth c H1 locs1 cells slots Q (F0 m (pc + 3) ls rest)) : W p l e R s m args below meth c H locs cells slots Q (F0 m pc ls (.ref b :: .ref a :: rest)) := by
  obtain ⟨q, h1, h2, h3⟩ := (hB.got ha).obj hsh
  have hq : q = (C, T, N) := Option.some.inj (h1.symm.trans F.1)
  subst hq
  refine iv_putV X F h2 j hj hlink hfin hn hfit hdg fun H1 i hO z o => ?_
  refine kk H1 _ (hB.put (k := (cd, g, iv_ur r j b)) ha rfl z o ?_)
  unfold iv_C
  show match sh cd with | .inl _ => _ | .inr (.inl _) => _ | .inr (.inr _) => _
  rw [hsh]
  refine ⟨_, h1, hO.to (fun i hi => ?_), fun i hi => ?_⟩
  · show _ = iv_v _ _ (ts _ i)
    rw [hti]
    by_cases e : i = j
    · subst e
      rw [ht]
      simp [updV, iv_v, iv_ur]
    · cases h : ts (cd, g, r) i <;> simp [updV, iv_v, iv_ur, e, h]
  · show iv_ok _ _ _ (ts _ i)
    rw [hti]
    refine iv_ok_mono (G := G) (G' := iv_up G a (cd, g, iv_ur r j b)) (fun b' kb' h' => iv_up_pres ha rfl h') ?_
    have h4 := h3 i hi
    by_cases e : i = j
    · subst e
      rw [ht]
      show ∃ k' : iv_K, G (iv_ur r i b i) = some k' ∧ k'.1 = cd'
      simp only [iv_ur, if_pos]
      exact ⟨kb, hv, hv1⟩
    · cases h : ts (cd, g, r) i with
      | inl w =>
        rw [h] at h4
        exact h4
      | inr w =>
        rw [h] at h4
        show ∃ k' : iv_K, G (iv_ur r j b i) = some k' ∧ k'.1 = w
        simp only [iv_ur, if_neg e]
        exact h4
/-! arrays -/
def iv_E (lo hi : Int) (n : Nat) : (Nat → Int32) → Prop := fun f => ∀ j, j < n → iv_R lo hi (f j)
theorem iv_E.up {lo hi : Int} {n k : Nat} {f : Nat → Int32} {x : Int32} (h : iv_E lo hi n f) (hx : iv_R lo hi x) : iv_E lo hi n (upd f k x) := fun j hj => by
  unfold upd
  split
  · exact hx
  · exact h j hj
theorem iv_aldP (X : iv_X p m c cc nL s args W0 own D cl tys base) (hB : iv_B sh D cl tys base G H0 H locs) {cd n : Nat} {g : Nat → Int32} {r : Nat → Nat} (ha : G a = some (cd, g, r)) {P : (Nat → Int32) → Prop} (hsh : sh cd = .inr (.inl (n, P))) {i : Int32} (hin : vp_in i n) (hdg : decode cc pc = .ok (.iaload, 1))
    (kk : P g → W p l e R s m args below meth c H locs cells slots Q (F0 m (pc + 1) ls (.int (g i.toNatClampNeg) :: rest))) : W p l e R s m args below meth c H locs cells slots Q (F0 m pc ls (.int i :: .ref a :: rest)) := by
  obtain ⟨⟨hexec, hb, hml, hown, hts⟩, hK, hN⟩ := X
  obtain ⟨cA, h1, h2, h3⟩ := (hB.got ha).arr hsh
  have hlt := iv_inN hin
  exact W.iald (v := .int (g i.toNatClampNeg)) hexec hb h2 ((hK.2 0 _ h1).1 n (fun j => .int (g j))) (fun q => by cases q) (by show ¬ (i < 0 ∨ (arrV _ _ _).slots.size ≤ _); rw [arrV_size]; exact hin) (by show (arrV _ _ _).slots[_]? = _; rw [arrV_read _ _ hlt]) rfl rfl hdg (kk h3)
theorem iv_ald (X : iv_X p m c cc nL s args W0 own D cl tys base) (hB : iv_B sh D cl tys base G H0 H locs) {cd n : Nat} {g : Nat → Int32} {r : Nat → Nat} (ha : G a = some (cd, g, r)) {lo hi : Int} (hsh : sh cd = .inr (.inl (n, iv_E lo hi n))) {i : Int32} (hin : vp_in i n) (hdg : decode cc pc = .ok (.iaload, 1))
    (kk : ∀ z : Int32, z = g i.toNatClampNeg → iv_R lo hi z → W p l e R s m args below meth c H locs cells slots Q (F0 m (pc + 1) ls (.int z :: rest))) : W p l e R s m args below meth c H locs cells slots Q (F0 m pc ls (.int i :: .ref a :: rest)) :=
  iv_aldP X hB ha hsh hin hdg (fun h => kk _ rfl (h _ (iv_inN hin)))
theorem iv_astP (X : iv_X p m c cc nL s args W0 own D cl tys base) (hB : iv_B sh D cl tys base G H0 H locs) {cd n : Nat} {g : Nat → Int32} {r : Nat → Nat} (ha : G a = some (cd, g, r)) {P : (Nat → Int32) → Prop} (hsh : sh cd = .inr (.inl (n, P))) {i x : Int32} (hin : vp_in i n) (hx : P g → P (upd g i.toNatClampNeg x)) (hdg : decode cc pc = .ok (.iastore, 1))
    (kk : ∀ (H1 : Heap) (locs1 : List Loc), iv_B sh D cl tys base (iv_up G a (cd, upd g i.toNatClampNeg x, r)) H0 H1 locs1 → W p l e R s m args below meth c H1 locs1 cells slots Q (F0 m (pc + 1) ls rest)) : W p l e R s m args below meth c H locs cells slots Q (F0 m pc ls (.int x :: .int i :: .ref a :: rest)) := by
  obtain ⟨⟨hexec, hb, hml, hown, hts⟩, hK, hN⟩ := X
  obtain ⟨cA, h1, h2, h3⟩ := (hB.got ha).arr hsh
  refine W.iast hexec hb h2 ((hK.2 0 _ h1).1 n (fun j => .int (g j))) (fun q => by cases q) (by show ¬ (i < 0 ∨ (arrV _ _ _).slots.size ≤ _); rw [arrV_size]; exact hin) rfl rfl hdg fun H1 e' z oq => ?_
  refine kk H1 _ (hB.put (k := (cd, upd g i.toNatClampNeg x, r)) ha rfl z oq ?_)
  unfold iv_C
  show match sh cd with | .inl _ => _ | .inr (.inl _) => _ | .inr (.inr _) => _
  rw [hsh]
  refine ⟨cA, h1, ?_, hx h3⟩
  rw [e', vp_cell_i, vp_cell_i, arrV_store]
  congr 2
  funext q
  by_cases hq : q = i.toNatClampNeg
  · subst hq
    simp [updV, upd]
  · simp [updV, upd, hq]
theorem iv_ast (X : iv_X p m c cc nL s args W0 own D cl tys base) (hB : iv_B sh D cl tys base G H0 H locs) {cd n : Nat} {g : Nat → Int32} {r : Nat → Nat} (ha : G a = some (cd, g, r)) {lo hi : Int} (hsh : sh cd = .inr (.inl (n, iv_E lo hi n))) {i x : Int32} (hin : vp_in i n) (hx : iv_R lo hi x) (hdg : decode cc pc = .ok (.iastore, 1))
    (kk : ∀ (H1 : Heap) (locs1 : List Loc), iv_B sh D cl tys base (iv_up G a (cd, upd g i.toNatClampNeg x, r)) H0 H1 locs1 → W p l e R s m args below meth c H1 locs1 cells slots Q (F0 m (pc + 1) ls rest)) : W p l e R s m args below meth c H locs cells slots Q (F0 m pc ls (.int x :: .int i :: .ref a :: rest)) :=
  iv_astP X hB ha hsh hin (fun h => h.up hx) hdg kk
theorem iv_alen (X : iv_X p m c cc nL s args W0 own D cl tys base) (hB : iv_B sh D cl tys base G H0 H locs) {cd n : Nat} {g : Nat → Int32} {r : Nat → Nat} (ha : G a = some (cd, g, r)) {P : (Nat → Int32) → Prop} (hsh : sh cd = .inr (.inl (n, P))) {v : Int32} (hv : n.toInt32 = v) (hdg : decode cc pc = .ok (.arraylength, 1))
    (kk : W p l e R s m args below meth c H locs cells slots Q (F0 m (pc + 1) ls (.int v :: rest))) : W p l e R s m args below meth c H locs cells slots Q (F0 m pc ls (.ref a :: rest)) := by
  obtain ⟨⟨hexec, hb, hml, hown, hts⟩, hK, hN⟩ := X
  obtain ⟨cA, h1, h2, h3⟩ := (hB.got ha).arr hsh
  exact W.alen (n := v) hexec hb h2 ((hK.2 0 _ h1).1 n (fun j => .int (g j))) (by show (arrV _ _ _).slots.size.toInt32 = v; rw [arrV_size]; exact hv) rfl rfl hdg kk
theorem iv_aald (X : iv_X p m c cc nL s args W0 own D cl tys base) (hB : iv_B sh D cl tys base G H0 H locs) {cd t0 n cd' : Nat} {g : Nat → Int32} {r : Nat → Nat} (ha : G a = some (cd, g, r)) (hsh : sh cd = .inr (.inr (t0, n, cd'))) {i : Int32} (hin : vp_in i n) (hdg : decode cc pc = .ok (.aaload, 1))
    (kk : ∀ (b : Nat) (g' : Nat → Int32) (r' : Nat → Nat), b = r i.toNatClampNeg → G b = some (cd', g', r') → W p l e R s m args below meth c H locs cells slots Q (F0 m (pc + 1) ls (.ref b :: rest))) : W p l e R s m args below meth c H locs cells slots Q (F0 m pc ls (.int i :: .ref a :: rest)) := by
  obtain ⟨⟨hexec, hb, hml, hown, hts⟩, hK, hN⟩ := X
  obtain ⟨cA, ty, h1, h2, h3, h4⟩ := (hB.got ha).rar hsh
  have hlt := iv_inN hin
  obtain ⟨⟨c', g', r'⟩, h5, h6⟩ := h4 _ hlt
  have h6 : c' = cd' := h6
  subst h6
  exact W.aald (v := .ref (r i.toNatClampNeg)) (ty := ty) hexec hb h3 ((hK.2 t0 _ h1).1 n (fun j => va_rf (some (r j)))) h2 (fun q => by cases q) (by show ¬ (i < 0 ∨ (arrV _ _ _).slots.size ≤ _); rw [arrV_size]; exact hin) (by show (arrV _ _ _).slots[_]? = _; rw [arrV_read _ _ hlt]; rfl) rfl rfl hdg (kk _ g' r' rfl h5)
/-! contracts -/
def iv_Pc (sh : Nat → iv_Sh) (D : va_G) (cl : List vw_C) (tys : List (ClassId × FieldType)) (base : Nat) (G : iv_G) (av : List Value) : Array Value → State → Prop := va_Pc av (fun U => iv_I sh D cl tys base G U.heap ∧ (va_K D cl tys U ∧ iv_N base D U) ∧ base ≤ U.heap.size)
def iv_W (sh : Nat → iv_Sh) (D : va_G) (cl : List vw_C) (tys : List (ClassId × FieldType)) (base : Nat) (G : iv_G) (U : State) : Prop := iv_I sh D cl tys base G U.heap ∧ va_K D cl tys U
abbrev iv_Qi (sh : Nat → iv_Sh) (D : va_G) (cl : List vw_C) (tys : List (ClassId × FieldType)) (base : Nat) (post : Int32 → iv_G → Prop) : Array Value → State → Outcome → State → Prop := va_Qi post (iv_W sh D cl tys base) (iv_A base)
abbrev iv_Qv (sh : Nat → iv_Sh) (D : va_G) (cl : List vw_C) (tys : List (ClassId × FieldType)) (base : Nat) (post : iv_G → Prop) : Array Value → State → Outcome → State → Prop := va_Qv post (iv_W sh D cl tys base) (iv_A base)
theorem iv_Pc_blind {av : List Value} : FrameBlind (iv_Pc sh D cl tys base G av) := fun a' U g mk q => ⟨q.1, q.2.1, ⟨va_K.moved (u := U) (U := U.calling g mk a') (Vm.Alike.refl U.vm) q.2.2.1.1, iv_N.same (u := U) (U := U.calling g mk a') rfl rfl q.2.2.1.2⟩, q.2.2.2⟩
/-- what a call needs of the tables, once a method -/
def iv_MF (W0 : List Cond) (y : MethodName) (bytes : ByteArray) (maxL : Nat) (ret : Option FieldType) (n : Nat) : Prop := Cond.code y bytes maxL ret ∈ W0 ∧ Cond.initialized y.cls ∈ W0 ∧ (y.cls ≠ "java/lang/invoke/MethodHandle" ∧ y.cls ≠ "java/lang/invoke/VarHandle" ∧ (parseMethodDescriptor y.desc).map (fun d => d.parameters.length) = some n)
theorem iv_goodIn {big ws : List Cond} (hm : ∀ w ∈ ws, w ∈ big) (h : ws.all goodWord = true) : GoodIn big ws := fun w hw => ⟨hm w hw, good_of_word (List.all_eq_true.mp h w hw)⟩
theorem iv_good {w : Cond} (hW0 : W0.all goodWord = true) (hw : w ∈ W0) : GoodIn W0 (w :: W0) := by
  refine iv_goodIn (fun x hx => ?_) ?_
  · rcases List.mem_cons.mp hx with h | h
    · rw [h]; exact hw
    · exact h
  · rw [List.all_cons, hW0, Bool.and_true]
    exact List.all_eq_true.mp hW0 _ hw
theorem iv_X.tl {w : Cond} (X : iv_X p m c cc nL s args (w :: W0) own D cl tys base) : iv_X p m c cc nL s args W0 own D cl tys base := ⟨⟨X.1.1, X.1.2.1, X.1.2.2.1, X.1.2.2.2.1, fun v hv => X.1.2.2.2.2 v (List.mem_cons_of_mem _ hv)⟩, X.2⟩
theorem iv_callB (X : iv_X p m c cc nL s args W0 own D cl tys base) (hW0 : W0.all goodWord = true) {y : MethodName} {bytes : ByteArray} {maxL index n mc ms : Nat} {ret : Option FieldType} {rm : Room} (M : iv_MF W0 y bytes maxL ret n) (hl : Cond.methodLink own index y ∈ W0) (hr0 : rm.cells = mc ∧ rm.slots = ms) (hR : rm.frames + 1 ≤ R.frames ∧ 8 + (maxL + 11) + rm.locals ≤ R.locals) :
    CallB R s args own index y bytes maxL ret (Cond.code y bytes maxL ret :: W0) rm mc ms n :=
  callB_of n X.1.2.2.2.2 (iv_good hW0 M.1) rfl hr0.1 hr0.2 (X.1.2.2.2.2 _ M.2.1) (X.1.2.2.2.2 _ hl) M.2.2 hR
/-- a call of an instance's method, its answer a number or a boolean -/
theorem iv_cVi (X : iv_X p m c cc nL s args W0 own D cl tys base) (hW0 : W0.all goodWord = true) {y : MethodName} {bytes : ByteArray} {maxL index n ci N cd : Nat} {ret : Option FieldType} {rm : Room} (M : iv_MF W0 y bytes maxL ret n) (hinst : Cond.instanceMethod y ∈ W0) (hsel : Cond.selects y.cls y y ∈ W0) (hl : Cond.methodLink own index y ∈ W0) {T : u_T} {ty : Nat → FieldType} (F : iv_FT cl W0 ci y.cls T N ty) (hB : iv_B sh D cl tys base G s.heap H locs) {g : Nat → Int32} {r : Nat → Nat} (ha : G b = some (cd, g, r)) {ts : iv_K → Nat → iv_T} (hsh : sh cd = .inl (ci, ts))
    {As : List Value} {post : Int32 → iv_G → Prop} (hM : Met l y (Cond.code y bytes maxL ret :: W0) rm (iv_Pc sh D cl tys base G (.ref b :: As)) (iv_Qi sh D cl tys base post) 0 0 (iv_A base)) (hr0 : rm.cells = 0 ∧ rm.slots = 0) (hR : rm.frames + 1 ≤ R.frames ∧ 8 + (maxL + 11) + rm.locals ≤ R.locals) (hRc : cells ≤ R.cells ∧ slots ≤ R.slots) {st0 : List Value} (hst : st0 = As.reverse ++ .ref b :: rest) (hn : As.length = n) (hsize : ls.size = nL) (hcat : (rest.map fun v => v.category).sum ≤ 8) (hdg : decode cc pc = .ok (.invokevirtual index, 3))
    (kk : ∀ (x : Int32) (G1 : iv_G) (H1 : Heap) (locs1 : List Loc), post x G1 → iv_B sh D cl tys base G1 s.heap H1 locs1 → W p l e R s m args below meth c H1 locs1 cells slots Q (F0 m (pc + 3) ls (.int x :: rest))) : W p l e R s m args below meth c H locs cells slots Q (F0 m pc ls st0) := by
  obtain ⟨q, h1, ⟨cell, o1, o2, o3, o4⟩, h3⟩ := (hB.got ha).obj hsh
  have hq : q = (y.cls, T, N) := Option.some.inj (h1.symm.trans F.1)
  subst hq
  have hcls := (X.2.1.1 ci _ h1).2
  refine va_calli (va_runV (As := As) (rest := rest) (C := y.cls) X.1 hM ⟨iv_callB X hW0 M hl hr0 hR, X.1.2.2.2.2 _ hinst, X.1.2.2.2.2 _ hsel⟩ ⟨iv_Pc_blind, ⟨cell, o1, by rw [o3]; rfl, by rw [o2]; exact hcls.1⟩, fun U hU hW => ⟨rfl, by rw [hU]; exact hB.1, ⟨va_K.moved hW.alike X.2.1, iv_N.warm hW hB.2.1 hU X.2.2⟩, by rw [hU]; exact Nat.le_trans hB.2.2 hB.2.1.1⟩⟩ rfl hn hsize hst (lv_room hcat) hdg hRc) hB.2.1 (fun _ _ h => h) (fun _ h => h) (fun x u t H1 locs1 ht hvm hw hb1 hz1 hk1 hS => ?_)
  exact kk x u H1 locs1 hw ⟨by rw [← ht]; exact hb1.1, hS, hB.2.2⟩
theorem iv_cVv (X : iv_X p m c cc nL s args W0 own D cl tys base) (hW0 : W0.all goodWord = true) {y : MethodName} {bytes : ByteArray} {maxL index n ci N cd : Nat} {ret : Option FieldType} {rm : Room} (M : iv_MF W0 y bytes maxL ret n) (hinst : Cond.instanceMethod y ∈ W0) (hsel : Cond.selects y.cls y y ∈ W0) (hl : Cond.methodLink own index y ∈ W0) {T : u_T} {ty : Nat → FieldType} (F : iv_FT cl W0 ci y.cls T N ty) (hB : iv_B sh D cl tys base G s.heap H locs) {g : Nat → Int32} {r : Nat → Nat} (ha : G b = some (cd, g, r)) {ts : iv_K → Nat → iv_T} (hsh : sh cd = .inl (ci, ts))
    {As : List Value} {post : iv_G → Prop} (hM : Met l y (Cond.code y bytes maxL ret :: W0) rm (iv_Pc sh D cl tys base G (.ref b :: As)) (iv_Qv sh D cl tys base post) 0 0 (iv_A base)) (hr0 : rm.cells = 0 ∧ rm.slots = 0) (hR : rm.frames + 1 ≤ R.frames ∧ 8 + (maxL + 11) + rm.locals ≤ R.locals) (hRc : cells ≤ R.cells ∧ slots ≤ R.slots) {st0 : List Value} (hst : st0 = As.reverse ++ .ref b :: rest) (hn : As.length = n) (hsize : ls.size = nL) (hcat : (rest.map fun v => v.category).sum ≤ 8) (hdg : decode cc pc = .ok (.invokevirtual index, 3))
    (kk : ∀ (G1 : iv_G) (H1 : Heap) (locs1 : List Loc), post G1 → iv_B sh D cl tys base G1 s.heap H1 locs1 → W p l e R s m args below meth c H1 locs1 cells slots Q (F0 m (pc + 3) ls rest)) : W p l e R s m args below meth c H locs cells slots Q (F0 m pc ls st0) := by
  obtain ⟨q, h1, ⟨cell, o1, o2, o3, o4⟩, h3⟩ := (hB.got ha).obj hsh
  have hq : q = (y.cls, T, N) := Option.some.inj (h1.symm.trans F.1)
  subst hq
  have hcls := (X.2.1.1 ci _ h1).2
  refine va_callv (va_runV (As := As) (rest := rest) (C := y.cls) X.1 hM ⟨iv_callB X hW0 M hl hr0 hR, X.1.2.2.2.2 _ hinst, X.1.2.2.2.2 _ hsel⟩ ⟨iv_Pc_blind, ⟨cell, o1, by rw [o3]; rfl, by rw [o2]; exact hcls.1⟩, fun U hU hW => ⟨rfl, by rw [hU]; exact hB.1, ⟨va_K.moved hW.alike X.2.1, iv_N.warm hW hB.2.1 hU X.2.2⟩, by rw [hU]; exact Nat.le_trans hB.2.2 hB.2.1.1⟩⟩ rfl hn hsize hst (lv_room hcat) hdg hRc) hB.2.1 (fun _ _ h => h) (fun _ h => h) (fun u t H1 locs1 ht hvm hw hb1 hz1 hk1 hS => ?_)
  exact kk u H1 locs1 hw ⟨by rw [← ht]; exact hb1.1, hS, hB.2.2⟩
theorem iv_cSi (X : iv_X p m c cc nL s args W0 own D cl tys base) (hW0 : W0.all goodWord = true) {y : MethodName} {bytes : ByteArray} {maxL index n : Nat} {ret : Option FieldType} {rm : Room} (M : iv_MF W0 y bytes maxL ret n) (hstat : Cond.static y ∈ W0) (hl : Cond.methodLink own index y ∈ W0) (hB : iv_B sh D cl tys base G s.heap H locs)
    {As : List Value} {post : Int32 → iv_G → Prop} (hM : Met l y (Cond.code y bytes maxL ret :: W0) rm (iv_Pc sh D cl tys base G As) (iv_Qi sh D cl tys base post) 0 0 (iv_A base)) (hr0 : rm.cells = 0 ∧ rm.slots = 0) (hR : rm.frames + 1 ≤ R.frames ∧ 8 + (maxL + 11) + rm.locals ≤ R.locals) (hRc : cells ≤ R.cells ∧ slots ≤ R.slots) {st0 : List Value} (hst : st0 = As.reverse ++ rest) (hn : As.length = n) (hsize : ls.size = nL) (hcat : (rest.map fun v => v.category).sum ≤ 8) (hdg : decode cc pc = .ok (.invokestatic index, 3))
    (kk : ∀ (x : Int32) (G1 : iv_G) (H1 : Heap) (locs1 : List Loc), post x G1 → iv_B sh D cl tys base G1 s.heap H1 locs1 → W p l e R s m args below meth c H1 locs1 cells slots Q (F0 m (pc + 3) ls (.int x :: rest))) : W p l e R s m args below meth c H locs cells slots Q (F0 m pc ls st0) := by
  refine va_calli (va_runS (As := As) (rest := rest) X.1 hM ⟨iv_callB X hW0 M hl hr0 hR, X.1.2.2.2.2 _ hstat⟩ ⟨iv_Pc_blind, fun U hU hW => ⟨rfl, by rw [hU]; exact hB.1, ⟨va_K.moved hW.alike X.2.1, iv_N.warm hW hB.2.1 hU X.2.2⟩, by rw [hU]; exact Nat.le_trans hB.2.2 hB.2.1.1⟩⟩ rfl hn hsize hst (lv_room hcat) hdg hRc) hB.2.1 (fun _ _ h => h) (fun _ h => h) (fun x u t H1 locs1 ht hvm hw hb1 hz1 hk1 hS => ?_)
  exact kk x u H1 locs1 hw ⟨by rw [← ht]; exact hb1.1, hS, hB.2.2⟩
theorem iv_cSNi (X : iv_X p m c cc nL s args W0 own D cl tys base) (hW0 : W0.all goodWord = true) {y : MethodName} {host : String} {bytes : ByteArray} {maxL index n : Nat} {ret : Option FieldType} {rm : Room} (M : iv_MF W0 y bytes maxL ret n) (hstat : Cond.static y ∈ W0) (hl : va_Nw (.methodLinkNest own index y host) s) (hB : iv_B sh D cl tys base G s.heap H locs)
    {As : List Value} {post : Int32 → iv_G → Prop} (hM : Met l y (Cond.code y bytes maxL ret :: W0) rm (iv_Pc sh D cl tys base G As) (iv_Qi sh D cl tys base post) 0 0 (iv_A base)) (hr0 : rm.cells = 0 ∧ rm.slots = 0) (hR : rm.frames + 1 ≤ R.frames ∧ 8 + (maxL + 11) + rm.locals ≤ R.locals) (hRc : cells ≤ R.cells ∧ slots ≤ R.slots) {st0 : List Value} (hst : st0 = As.reverse ++ rest) (hn : As.length = n) (hsize : ls.size = nL) (hcat : (rest.map fun v => v.category).sum ≤ 8) (hdg : decode cc pc = .ok (.invokestatic index, 3))
    (kk : ∀ (x : Int32) (G1 : iv_G) (H1 : Heap) (locs1 : List Loc), post x G1 → iv_B sh D cl tys base G1 s.heap H1 locs1 → W p l e R s m args below meth c H1 locs1 cells slots Q (F0 m (pc + 3) ls (.int x :: rest))) : W p l e R s m args below meth c H locs cells slots Q (F0 m pc ls st0) := by
  refine va_calli (va_runSN (As := As) (rest := rest) X.1 hM ⟨va_cnB n X.1.2.2.2.2 (iv_good hW0 M.1) rfl hr0.1 hr0.2 hl (X.1.2.2.2.2 _ M.2.1) M.2.2 hR, X.1.2.2.2.2 _ hstat, trivial⟩ ⟨iv_Pc_blind, fun U hU hW => ⟨rfl, by rw [hU]; exact hB.1, ⟨va_K.moved hW.alike X.2.1, iv_N.warm hW hB.2.1 hU X.2.2⟩, by rw [hU]; exact Nat.le_trans hB.2.2 hB.2.1.1⟩⟩ rfl hn hsize hst (lv_room hcat) hdg hRc) hB.2.1 (fun _ _ h => h) (fun _ h => h) (fun x u t H1 locs1 ht hvm hw hb1 hz1 hk1 hS => ?_)
  exact kk x u H1 locs1 hw ⟨by rw [← ht]; exact hb1.1, hS, hB.2.2⟩
/-- the answers -/
theorem iv_iret {post : Int32 → iv_G → Prop} {v : Int32} (X : iv_X p m c cc nL s args W0 own D cl tys base) (hr : meth.sig.returnType = some .int) (hlocks : meth.locks = false) (hB : iv_B sh D cl tys base G s.heap H locs) (hq : post v G) (hdg : decode cc pc = .ok (.ireturn, 1)) : W p l e R s m args below meth c H locs cells slots (MQ below (iv_Qi sh D cl tys base post) args s cells slots (iv_A base)) (F0 m pc ls [.int v]) :=
  W.iret X.1.1 X.1.2.1 hr (fun t ht hW => ⟨⟨v, G, rfl, hq, by rw [iv_W, ht]; exact ⟨hB.1, va_K.moved hW.alike X.2.1⟩⟩, hB.2.1.F ht⟩) hB.2.1.2.2 hdg hlocks
theorem iv_nar {v : Int32} (h : iv_R 0 1 v) : narrow .boolean (.int v) = .int v := by
  have h1 : v.toInt = 0 ∨ v.toInt = 1 := by have := h.1; have := h.2; omega
  rcases h1 with h1 | h1
  · have : v = 0 := Int32.toInt_inj.mp h1
    subst this
    rfl
  · have : v = 1 := Int32.toInt_inj.mp h1
    subst this
    rfl
theorem iv_zret {post : Int32 → iv_G → Prop} {v : Int32} (X : iv_X p m c cc nL s args W0 own D cl tys base) (hr : meth.sig.returnType = some .boolean) (hlocks : meth.locks = false) (hB : iv_B sh D cl tys base G s.heap H locs) (h1 : iv_R 0 1 v) (hq : post v G) (hdg : decode cc pc = .ok (.ireturn, 1)) : W p l e R s m args below meth c H locs cells slots (MQ below (iv_Qi sh D cl tys base post) args s cells slots (iv_A base)) (F0 m pc ls [.int v]) :=
  W.zret X.1.1 X.1.2.1 hr (iv_nar h1) (fun t ht hW => ⟨⟨v, G, rfl, hq, by rw [iv_W, ht]; exact ⟨hB.1, va_K.moved hW.alike X.2.1⟩⟩, hB.2.1.F ht⟩) hB.2.1.2.2 hdg hlocks
theorem iv_vret {post : iv_G → Prop} (X : iv_X p m c cc nL s args W0 own D cl tys base) (hr : meth.sig.returnType = none) (hlocks : meth.locks = false) (hB : iv_B sh D cl tys base G s.heap H locs) (hq : post G) (hdg : decode cc pc = .ok (.return_, 1)) : W p l e R s m args below meth c H locs cells slots (MQ below (iv_Qv sh D cl tys base post) args s cells slots (iv_A base)) (F0 m pc ls []) :=
  W.vret X.1.1 X.1.2.1 hr (fun t ht hW => ⟨⟨G, rfl, hq, by rw [iv_W, ht]; exact ⟨hB.1, va_K.moved hW.alike X.2.1⟩⟩, hB.2.1.F ht⟩) hB.2.1.2.2 hdg hlocks
end IV
/-- the head of any method -/
theorem iv_head {l : Launch} {sh : Nat → iv_Sh} {D : va_G} {cl : List vw_C} {tys : List (ClassId × FieldType)} {base : Nat} {G : iv_G} {W0 : List Cond} {y : MethodName} {cc : ByteArray} {maxL : Nat} {ret : Option FieldType} {rm : Room} {av : List Value} {Qc : Array Value → State → Outcome → State → Prop} {mc ms : Nat} {free : Addr → Prop} (hy : plainName y.cls = true) (hlen : (lg_sl av).length ≤ maxL)
    (body : ∀ (p : Program) (e : Env) (s : State) (m : MethodId) (args : Array Value) (below : List Frame) (meth : Method) (c : Code) (ls : Array Slot), iv_X p m c cc maxL s args W0 y.cls D cl tys base → meth.sig.returnType = ret → meth.locks = false → meth.name = y.name → iv_B sh D cl tys base G s.heap s.heap [] → lv_has ls maxL (lv_args 0 av) →
      W p l e rm s m args below meth c s.heap [] 0 0 (MQ below Qc args s mc ms free) (F0 m 0 ls [])) : Met l y (Cond.code y cc maxL ret :: W0) rm (iv_Pc sh D cl tys base G av) Qc mc ms free := by
  refine Met.ofW (cc := cc) (maxL := maxL) (ret := ret) hy rfl ?_
  intro p e s m args below meth c s₁ B hml hv
  obtain ⟨rfl, hI, hK, hbs⟩ := hv
  have hts := atoms_spec (ws := Cond.code y cc maxL ret :: W0) B.pre
  have hl := lv_entry av (n := maxL) hlen
  rw [lg_entry_eq]
  exact body p e s m _ below meth c _ ⟨⟨B.exec, B.bytes, hml, findClass_of_methodNamed B.named, fun w hw => hts w (List.mem_cons_of_mem _ hw)⟩, hK⟩ B.returns B.notSynchronized (name_of_methodNamed B.named B.method).1 ⟨hI, va_S.rf, hbs⟩ hl
