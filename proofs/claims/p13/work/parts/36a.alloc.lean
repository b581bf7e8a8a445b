/-! the store while objects are made: typed from base on, changed from f on only -/
theorem iv_I.lt {sh : Nat → iv_Sh} {D : va_G} {cl : List vw_C} {tys : List (ClassId × FieldType)} {base : Nat} {G : iv_G} {H : Heap} (hI : iv_I sh D cl tys base G H) {x : Nat} {k : iv_K} (hx : G x = some k) : x < H.size := by
  have h := (hI x k hx).2
  unfold iv_C at h
  cases hs : sh k.1 with
  | inl o =>
    rw [hs] at h
    obtain ⟨r, h1, ⟨cell, o1, -⟩, h3⟩ := h
    exact (Array.getElem?_eq_some_iff.mp o1).1
  | inr q =>
    cases q with
    | inl r =>
      rw [hs] at h
      obtain ⟨cA, h1, h2, h3⟩ := h
      exact (Array.getElem?_eq_some_iff.mp h2).1
    | inr r =>
      rw [hs] at h
      obtain ⟨cA, ty, h1, h2, h3, h4⟩ := h
      exact (Array.getElem?_eq_some_iff.mp h3).1
theorem iv_I.fresh {sh : Nat → iv_Sh} {D : va_G} {cl : List vw_C} {tys : List (ClassId × FieldType)} {base : Nat} {G : iv_G} {H : Heap} (hI : iv_I sh D cl tys base G H) {x : Nat} (hx : H.size ≤ x) : G x = none := by
  cases h : G x with
  | none => rfl
  | some k => exact absurd (hI.lt h) (by omega)
def iv_gr (b : Nat) (G G' : iv_G) : Prop := ∀ x, x < b → G' x = G x
theorem iv_gr.rf {b : Nat} {G : iv_G} : iv_gr b G G := fun _ _ => rfl
theorem iv_gr.tr {b b1 b2 : Nat} {G G1 G2 : iv_G} (h1 : iv_gr b1 G G1) (h2 : iv_gr b2 G1 G2) (e1 : b ≤ b1) (e2 : b ≤ b2) : iv_gr b G G2 := fun x hx => (h2 x (by omega)).trans (h1 x (by omega))
theorem iv_gr.up {b q : Nat} {G : iv_G} {k : iv_K} (h : b ≤ q) : iv_gr b G (iv_up G q k) := fun x hx => iv_up_ne (by omega)
theorem iv_I.keep {sh : Nat → iv_Sh} {D : va_G} {cl : List vw_C} {tys : List (ClassId × FieldType)} {base b : Nat} {G G' : iv_G} {H : Heap} (hI : iv_I sh D cl tys base G H) (hb : H.size ≤ b) (hg : iv_gr b G G') {x : Nat} {k : iv_K} (hx : G x = some k) : G' x = some k := (hg x (by have := hI.lt hx; omega)).trans hx
theorem iv_up_fr {G : iv_G} {q : Nat} {k : iv_K} (hq : G q = none) : ∀ (b : Nat) (kb : iv_K), G b = some kb → ∃ k' : iv_K, iv_up G q k b = some k' ∧ k'.1 = kb.1 := fun b kb hb => ⟨kb, (iv_up_ne (fun e => by rw [e, hq] at hb; cases hb)).trans hb, rfl⟩
theorem iv_I.add {sh : Nat → iv_Sh} {D : va_G} {cl : List vw_C} {tys : List (ClassId × FieldType)} {base : Nat} {G : iv_G} {H H1 : Heap} (hI : iv_I sh D cl tys base G H) {q : Nat} {k : iv_K} (hq : G q = none) (hb : base ≤ q) (ho : ∀ x, x < H.size → x ≠ q → H1[x]? = H[x]?) (hC : iv_C sh D cl tys (iv_up G q k) k q H1) : iv_I sh D cl tys base (iv_up G q k) H1 := by
  intro x kx hx
  by_cases e : x = q
  · subst e
    rw [iv_up_eq] at hx
    cases hx
    exact ⟨hb, hC⟩
  · rw [iv_up_ne e] at hx
    exact ⟨(hI x _ hx).1, iv_C_mono (iv_up_fr hq) (ho x (hI.lt hx) e) (hI x _ hx).2⟩
theorem iv_I.same {sh : Nat → iv_Sh} {D : va_G} {cl : List vw_C} {tys : List (ClassId × FieldType)} {base : Nat} {G : iv_G} {H H1 : Heap} (hI : iv_I sh D cl tys base G H) (ho : ∀ (x : Nat) (k : iv_K), G x = some k → H1[x]? = H[x]?) : iv_I sh D cl tys base G H1 := fun x k hx => ⟨(hI x k hx).1, iv_C_mono (fun b kb hb => ⟨kb, hb, rfl⟩) (ho x k hx) (hI x k hx).2⟩
theorem va_S.wkA {A A' : Nat → Prop} {H0 H : Heap} {locs : List Loc} (h : va_S A H0 H locs) (e : ∀ q, A q → A' q) : va_S A' H0 H locs := ⟨h.1, fun q h1 h2 => h.2.1 q h1 (fun z => h2 (e q z)), fun l hl => e _ (h.2.2 l hl)⟩
def iv_M (sh : Nat → iv_Sh) (D : va_G) (cl : List vw_C) (tys : List (ClassId × FieldType)) (base f : Nat) (G : iv_G) (H0 H : Heap) (locs : List Loc) : Prop := iv_I sh D cl tys base G H ∧ va_S (iv_A f) H0 H locs ∧ base ≤ f ∧ f ≤ H0.size
theorem iv_M.B {sh : Nat → iv_Sh} {D : va_G} {cl : List vw_C} {tys : List (ClassId × FieldType)} {base f : Nat} {G : iv_G} {H0 H : Heap} {locs : List Loc} (h : iv_M sh D cl tys base f G H0 H locs) : iv_B sh D cl tys base G H0 H locs := ⟨h.1, h.2.1.wkA (fun q hq => Nat.le_trans h.2.2.1 hq), Nat.le_trans h.2.2.1 h.2.2.2⟩
theorem iv_M.sz {sh : Nat → iv_Sh} {D : va_G} {cl : List vw_C} {tys : List (ClassId × FieldType)} {base f : Nat} {G : iv_G} {H0 H : Heap} {locs : List Loc} (h : iv_M sh D cl tys base f G H0 H locs) : f ≤ H.size := Nat.le_trans h.2.2.2 h.2.1.1
theorem va_S.pushed {A : Nat → Prop} {H0 H H1 : Heap} {locs : List Loc} (h : va_S A H0 H locs) (z : H.size ≤ H1.size) (o : ∀ x, x < H.size → H1[x]? = H[x]?) : va_S A H0 H1 locs := ⟨Nat.le_trans h.1 z, fun q h1 h2 => (o q (Nat.lt_of_lt_of_le h1 h.1)).trans (h.2.1 q h1 h2), h.2.2⟩
def iv_ty (tys : List (ClassId × FieldType)) : Prop := (∃ cA, tys[0]? = some (cA, .int)) ∧ (∃ cB, tys[1]? = some (cB, .object "UnbornBells$Bell")) ∧ (∃ cC, tys[2]? = some (cC, .array .int))
section IVN
variable {p : Program} {l : Launch} {e : Env} {R : Room} {s : State} {m : MethodId} {args : Array Value} {below : List Frame} {meth : Method} {c : Code} {H : Heap} {locs : List Loc} {cells slots : Nat} {Q : State → Prop}
variable {cc : ByteArray} {nL pc : Nat} {ls : Array Slot} {rest : List Value} {D : va_G} {cl : List vw_C} {tys : List (ClassId × FieldType)} {base f : Nat} {G : iv_G} {H0 : Heap} {a b : Nat} {W0 : List Cond} {own : String} {sh : Nat → iv_Sh}
/-- a new array of numbers, typed at once -/
theorem iv_newa (X : iv_X p m c cc nL s args W0 own D cl tys base) (hB : iv_M sh D cl tys base f G H0 H locs) (hty : iv_ty tys) (harr : Cond.arrayClass .int ∈ W0) {n : Int32} {N cd : Nat} {P : (Nat → Int32) → Prop} (hsh : sh cd = .inr (.inl (N, P))) (hP : P (fun _ => 0)) (hn : ¬ n < 0) (hN : n.toNatClampNeg = N) (hN2 : N ≤ 100000) (hcells : cells + 1 ≤ R.cells) (hslots : slots + N ≤ R.slots) (hdg : decode cc pc = .ok (.newarray .int, 2))
    (kk : ∀ (q : Nat) (H1 : Heap), q = H.size → H1.size = q + 1 → (∀ x, x < q → H1[x]? = H[x]?) → G q = none → iv_M sh D cl tys base f (iv_up G q (cd, fun _ => 0, fun _ => 0)) H0 H1 locs → W p l e R s m args below meth c H1 locs (cells + 1) (slots + N) Q (F0 m (pc + 2) ls (.ref q :: rest))) : W p l e R s m args below meth c H locs cells slots Q (F0 m pc ls (.int n :: rest)) := by
  obtain ⟨⟨hexec, hb, hml, hown, hts⟩, hK, -⟩ := X
  obtain ⟨cA0, ht⟩ := hty.1
  refine va_newaK (atype := .int) hexec hb (hts _ harr) rfl hdg rfl hn hN (by show N * 4 ≤ _; omega) hcells hslots rfl fun H1 cA e1 z1 o1 hAr hNm => ?_
  have hcA : cA = cA0 := Option.some.inj (hNm.symm.trans (hK.2 0 _ ht).2)
  subst hcA
  have hq : G H.size = none := hB.1.fresh (Nat.le_refl _)
  refine kk H.size H1 rfl z1 o1 hq ⟨hB.1.add hq (Nat.le_trans hB.2.2.1 hB.sz) (fun x h1 _ => o1 x h1) ?_, hB.2.1.pushed (by omega) o1, hB.2.2⟩
  unfold iv_C
  show match sh cd with | .inl _ => _ | .inr (.inl _) => _ | .inr (.inr _) => _
  rw [hsh]
  exact ⟨cA, ht, e1, hP⟩
/-- a new object, not typed yet -/
theorem iv_newo (X : iv_X p m c cc nL s args W0 own D cl tys base) (hB : iv_M sh D cl tys base f G H0 H locs) {ci N index : Nat} {C : String} {T : u_T} {ty : Nat → FieldType} (F : iv_FT cl W0 ci C T N ty) (hcl : Cond.classLink own index C ∈ W0) (hinst : Cond.instantiable C N ∈ W0) (hini : Cond.initialized C ∈ W0) (hcells : cells + 1 ≤ R.cells) (hslots : slots + N ≤ R.slots) (hdg : decode cc pc = .ok (.new index, 3))
    (kk : ∀ (q : Nat) (H1 : Heap), q = H.size → H1.size = q + 1 → (∀ x, x < q → H1[x]? = H[x]?) → t_OB q (D.1 ci) N (D.2 ci) H1 (fun j => defaultValue (ty j)) → G q = none → iv_M sh D cl tys base f G H0 H1 locs → W p l e R s m args below meth c H1 locs (cells + 1) (slots + N) Q (F0 m (pc + 3) ls (.ref q :: rest))) : W p l e R s m args below meth c H locs cells slots Q (F0 m pc ls rest) := by
  obtain ⟨⟨hexec, hb, hml, hown, hts⟩, hK, -⟩ := X
  obtain ⟨hc, hin, hty, hnm⟩ := F
  have hKn := hK.1 ci _ hc
  refine W.newcK hexec hb hown (hts _ hcl) (hts _ hinst) (hts _ hini) rfl hdg hcells hslots hKn.2.1 rfl fun H1 kC hkC e1 z1 o1 => ?_
  exact kk H.size H1 rfl z1 o1 (u_born ty hts hin hKn hkC e1 hty) (hB.1.fresh (Nat.le_refl _)) ⟨hB.1.same (fun x k hx => o1 x (hB.1.lt hx)), hB.2.1.pushed (by omega) o1, hB.2.2⟩
theorem iv_M.putO (hB : iv_M sh D cl tys base f G H0 H locs) (hno : G a = none) (hf : f ≤ a) {H1 : Heap} (z : H1.size = H.size) (o : ∀ q : Nat, q ≠ a → H1[q]? = H[q]?) {i : Nat} : iv_M sh D cl tys base f G H0 H1 (locs ++ [⟨a, i⟩]) := ⟨hB.1.same (fun x k hx => o x (fun e => by rw [e, hno] at hx; cases hx)), hB.2.1.put z o hf, hB.2.2⟩
/-- a field that isn't final, of an object that is being made -/
theorem iv_putU (X : iv_X p m c cc nL s args W0 own D cl tys base) (hB : iv_M sh D cl tys base f G H0 H locs) {ci N index : Nat} {C : String} {T : u_T} {ty : Nat → FieldType} (F : iv_FT cl W0 ci C T N ty) {V : Nat → Value} (hO : t_OB a (D.1 ci) N (D.2 ci) H V) (hno : G a = none) (hf : f ≤ a) (j : Nat) (hj : j < N) (hlink : Cond.fieldLink own index (T j).1 (T j).2.1 (T j).2.2.1 ∈ W0) (hfin : (T j).2.2.2 = false) {v : Value} (hn : narrow (ty j) v = v) (hfit : fits (ty j) v = true) (hdg : decode cc pc = .ok (.putfield index, 3))
    (kk : ∀ (H1 : Heap) (locs1 : List Loc), t_OB a (D.1 ci) N (D.2 ci) H1 (updV V j v) → H1.size = H.size → (∀ q : Nat, q ≠ a → H1[q]? = H[q]?) → iv_M sh D cl tys base f G H0 H1 locs1 → W p l e R s m args below meth c H1 locs1 cells slots Q (F0 m (pc + 3) ls rest)) : W p l e R s m args below meth c H locs cells slots Q (F0 m pc ls (v :: .ref a :: rest)) :=
  iv_putV X F hO j hj hlink hfin hn hfit hdg fun H1 i h1 z o => kk H1 _ h1 z o (hB.putO hno hf z o)
/-- a final field in the constructor -/
theorem iv_putF (X : iv_X p m c cc nL s args W0 own D cl tys base) (hB : iv_M sh D cl tys base f G H0 H locs) {ci N index : Nat} {C : String} {T : u_T} {ty : Nat → FieldType} (F : iv_FT cl W0 ci C T N ty) {V : Nat → Value} (hO : t_OB a (D.1 ci) N (D.2 ci) H V) (hno : G a = none) (hf : f ≤ a) (j : Nat) (hj : j < N) (hlink : Cond.fieldLink own index (T j).1 (T j).2.1 (T j).2.2.1 ∈ W0) (hfin : (T j).2.2.2 = true) (hname : meth.name = "<init>") (hdecl : (T j).1 = own) {v : Value} (hn : narrow (ty j) v = v) (hfit : fits (ty j) v = true) (hdg : decode cc pc = .ok (.putfield index, 3))
    (kk : ∀ (H1 : Heap) (locs1 : List Loc), t_OB a (D.1 ci) N (D.2 ci) H1 (updV V j v) → H1.size = H.size → (∀ q : Nat, q ≠ a → H1[q]? = H[q]?) → iv_M sh D cl tys base f G H0 H1 locs1 → W p l e R s m args below meth c H1 locs1 cells slots Q (F0 m (pc + 3) ls rest)) : W p l e R s m args below meth c H locs cells slots Q (F0 m pc ls (v :: .ref a :: rest)) := by
  obtain ⟨⟨hexec, hb, hml, hown, hts⟩, hK, -⟩ := X
  obtain ⟨hc, hin, hty, hnm⟩ := F
  have hap := va_apart (own := own) hts hin ty hty hnm hK hc
  obtain ⟨cell, q1, q2, q3, q4⟩ := hO
  obtain ⟨hS, hfc, kC, hkC, hkind⟩ := hK.1 ci _ hc
  obtain ⟨cf, kf, fi, fd, hi, hsl⟩ := hS j hj
  have hlay := hts _ (hin _ (u_in_lay hj))
  unfold u_lay at hlay
  rw [if_pos hfin] at hlay
  have hst := (u_facts hfc hkC (u_lays hts hin hj) hi).1
  have hcf : m.cls = cf := by
    obtain ⟨_, _, c', _, _, _, -, -, hf', -, -, -, hown2, -⟩ := Cond.laysFinal_spec hlay
    have e1 : c' = cf := by
      have := hi.symm.trans hf'
      simp at this
      exact this.1.symm
    rw [hdecl] at hown2
    rw [← e1]
    exact Option.some.inj (hown.symm.trans hown2)
  have h6 := u_fits hfc hkC hkind (Or.inr hlay) hi (hty j hj) hn hfit
  refine W.putFinK hexec hb hown (hts _ hlink) hi hst hcf hname (by rw [q2]; exact h6) q1 q3 (by rw [hsl]; exact k2_hasslot (q4 j hj)) rfl rfl hdg fun H' e1 e2 e3 => ?_
  rw [hsl] at e1 ⊢
  exact kk H' _ ⟨_, e1, q2, q3, t_set q4 hap hj v⟩ e2 e3 (hB.putO hno hf e2 e3)
/-- the object is whole: it is typed -/
theorem iv_M.close (hB : iv_M sh D cl tys base f G H0 H locs) (hno : G a = none) (hf : f ≤ a) {ci : Nat} {r : vw_C} (hc : cl[ci]? = some r) {V : Nat → Value} (hO : t_OB a (D.1 ci) r.2.2 (D.2 ci) H V) {cd : Nat} {g : Nat → Int32} {rr : Nat → Nat} {ts : iv_K → Nat → iv_T} (hsh : sh cd = .inl (ci, ts)) (hV : ∀ j, j < r.2.2 → V j = iv_v (cd, g, rr) j (ts (cd, g, rr) j)) (hok : ∀ j, j < r.2.2 → iv_ok G (cd, g, rr) j (ts (cd, g, rr) j)) : iv_M sh D cl tys base f (iv_up G a (cd, g, rr)) H0 H locs := by
  refine ⟨hB.1.add hno (Nat.le_trans hB.2.2.1 hf) (fun _ _ _ => rfl) ?_, hB.2⟩
  unfold iv_C
  show match sh cd with | .inl _ => _ | .inr (.inl _) => _ | .inr (.inr _) => _
  rw [hsh]
  exact ⟨r, hc, hO.to hV, fun j hj => iv_ok_mono (iv_up_fr hno) (hok j hj)⟩
/-- an array of numbers is whole -/
theorem iv_M.closeA (hB : iv_M sh D cl tys base f G H0 H locs) (hno : G a = none) (hf : f ≤ a) {cA : ClassId} (ht : tys[0]? = some (cA, .int)) {N cd : Nat} {g : Nat → Int32} {rr : Nat → Nat} {P : (Nat → Int32) → Prop} (hsh : sh cd = .inr (.inl (N, P))) (hcell : H[a]? = some (vp_cell cA (N, .inl g))) (hP : P g) : iv_M sh D cl tys base f (iv_up G a (cd, g, rr)) H0 H locs := by
  refine ⟨hB.1.add hno (Nat.le_trans hB.2.2.1 hf) (fun _ _ _ => rfl) ?_, hB.2⟩
  unfold iv_C
  show match sh cd with | .inl _ => _ | .inr (.inl _) => _ | .inr (.inr _) => _
  rw [hsh]
  exact ⟨cA, ht, hcell, hP⟩
/-- an array of references is whole -/
theorem iv_M.closeR (hB : iv_M sh D cl tys base f G H0 H locs) (hno : G a = none) (hf : f ≤ a) {t0 N cd cd' : Nat} {cA : ClassId} {ty : FieldType} (ht : tys[t0]? = some (cA, ty)) (hty : ty.isReference = true) {g : Nat → Int32} {rr : Nat → Nat} (hsh : sh cd = .inr (.inr (t0, N, cd'))) {fr : Nat → Option Nat} (hcell : H[a]? = some (vp_cell cA (N, .inr (.inr (.inr (.inr fr)))))) (hfr : fr = fun i => some (rr i)) (hok : ∀ i, i < N → ∃ k' : iv_K, G (rr i) = some k' ∧ k'.1 = cd') : iv_M sh D cl tys base f (iv_up G a (cd, g, rr)) H0 H locs := by
  refine ⟨hB.1.add hno (Nat.le_trans hB.2.2.1 hf) (fun _ _ _ => rfl) ?_, hB.2⟩
  unfold iv_C
  show match sh cd with | .inl _ => _ | .inr (.inl _) => _ | .inr (.inr _) => _
  rw [hsh]
  subst hfr
  refine ⟨cA, ty, ht, hty, hcell, fun i hi => ?_⟩
  obtain ⟨k1, h1, h2⟩ := hok i hi
  obtain ⟨k2, h3, h4⟩ := iv_up_fr (k := (cd, g, rr)) hno _ _ h1
  exact ⟨k2, h3, h4.trans h2⟩
/-! contracts of what makes objects -/
def iv_PcM (sh : Nat → iv_Sh) (D : va_G) (cl : List vw_C) (tys : List (ClassId × FieldType)) (base : Nat) (G : iv_G) (sz : Nat) (O : Heap → Prop) (av : List Value) : Array Value → State → Prop := va_Pc av (fun U => iv_I sh D cl tys base G U.heap ∧ (va_K D cl tys U ∧ iv_N base D U) ∧ U.heap.size = sz ∧ O U.heap)
abbrev iv_QvM (sh : Nat → iv_Sh) (D : va_G) (cl : List vw_C) (tys : List (ClassId × FieldType)) (base f : Nat) (post : iv_G → Prop) : Array Value → State → Outcome → State → Prop := va_Qv post (iv_W sh D cl tys base) (iv_A f)
abbrev iv_QrM (sh : Nat → iv_Sh) (D : va_G) (cl : List vw_C) (tys : List (ClassId × FieldType)) (base f : Nat) (post : iv_G → Nat → Prop) : Array Value → State → Outcome → State → Prop := va_Qr (fun _ => True) (fun (G : iv_G) (q : Nat) (U : State) => iv_W sh D cl tys base G U ∧ post G q) (iv_A f)
theorem iv_PcM_blind {av : List Value} {sz : Nat} {O : Heap → Prop} : FrameBlind (iv_PcM sh D cl tys base G sz O av) := fun a' U g mk q => ⟨q.1, q.2.1, ⟨va_K.moved (u := U) (U := U.calling g mk a') (Vm.Alike.refl U.vm) q.2.2.1.1, iv_N.same (u := U) (U := U.calling g mk a') rfl rfl q.2.2.1.2⟩, q.2.2.2⟩
theorem iv_preM (X : iv_X p m c cc nL s args W0 own D cl tys base) (hB : iv_M sh D cl tys base f G s.heap H locs) {av : List Value} {O : Heap → Prop} (hO : O H) : ∀ U : State, U.heap = H → s.WarmedH U.vm → iv_PcM sh D cl tys base G H.size O av av.toArray U := fun U hU hW => ⟨rfl, by rw [hU]; exact hB.1, ⟨va_K.moved hW.alike X.2.1, iv_N.warm hW hB.B.2.1 hU X.2.2⟩, by rw [hU], by rw [hU]; exact hO⟩
/-- a constructor's call -/
theorem iv_cI (X : iv_X p m c cc nL s args W0 own D cl tys base) (hW0 : W0.all goodWord = true) {y : MethodName} {bytes : ByteArray} {maxL index n mc ms sz : Nat} {rm : Room} (M : iv_MF W0 y bytes maxL none n) (hini : y.name = "<init>") (hinst : Cond.instanceMethod y ∈ W0) (hl : Cond.methodLink own index y ∈ W0 ∨ ∃ host, va_Nw (.methodLinkNest own index y host) s) (hB : iv_M sh D cl tys base f G s.heap H locs) (hfb : f ≤ b) {O : Heap → Prop} (hO : O H) (hsz : sz = H.size)
    {As : List Value} {post : iv_G → Prop} (hM : Met l y (Cond.code y bytes maxL none :: W0) rm (iv_PcM sh D cl tys base G sz O (.ref b :: As)) (iv_QvM sh D cl tys base b post) mc ms (iv_A b)) (hr0 : rm.cells = mc ∧ rm.slots = ms) (hR : rm.frames + 1 ≤ R.frames ∧ 8 + (maxL + 11) + rm.locals ≤ R.locals) (hRc : cells + mc ≤ R.cells ∧ slots + ms ≤ R.slots) {st0 : List Value} (hst : st0 = As.reverse ++ .ref b :: rest) (hn : As.length = n) (hsize : ls.size = nL) (hcat : (rest.map fun v => v.category).sum ≤ 8) (hdg : decode cc pc = .ok (.invokespecial index, 3))
    (kk : ∀ (G1 : iv_G) (H1 : Heap) (locs1 : List Loc), post G1 → H.size ≤ H1.size → (∀ x, x < b → x < H.size → H1[x]? = H[x]?) → iv_M sh D cl tys base f G1 s.heap H1 locs1 → W p l e R s m args below meth c H1 locs1 (cells + mc) (slots + ms) Q (F0 m (pc + 3) ls rest)) : W p l e R s m args below meth c H locs cells slots Q (F0 m pc ls st0) := by
  subst hsz
  have hrun : va_Run p l e R s m args below meth c H locs cells slots mc ms (F0 m pc ls st0) rest (iv_QvM sh D cl tys base b post (Value.ref b :: As).toArray) (iv_A b) := by
    rcases hl with hl | ⟨host, hl⟩
    · exact va_runI (As := As) (rest := rest) X.1 hM ⟨iv_callB X hW0 M hl hr0 hR, hini, X.1.2.2.2.2 _ hinst⟩ ⟨iv_PcM_blind, iv_preM X hB hO⟩ rfl hn hsize hst (lv_room hcat) hdg hRc
    · exact va_runIN (As := As) (rest := rest) X.1 hM ⟨va_cnB n X.1.2.2.2.2 (iv_good hW0 M.1) rfl hr0.1 hr0.2 hl (X.1.2.2.2.2 _ M.2.1) M.2.2 hR, hini, X.1.2.2.2.2 _ hinst⟩ ⟨iv_PcM_blind, iv_preM X hB hO⟩ rfl hn hsize hst (lv_room hcat) hdg hRc
  refine va_callv hrun hB.2.1 (fun q _ h => Nat.le_trans hfb h) (fun q h => Nat.le_trans hfb h) (fun u t H1 locs1 ht hvm hw hb1 hz1 hk1 hS => ?_)
  exact kk u H1 locs1 hw hz1 (fun x h1 h2 => hk1 x h2 (fun h3 => absurd (show b ≤ x from h3) (by omega))) ⟨by rw [← ht]; exact hb1.1, hS, hB.2.2⟩
/-- a class method's call that answers a reference -/
theorem iv_cSr (X : iv_X p m c cc nL s args W0 own D cl tys base) (hW0 : W0.all goodWord = true) {y : MethodName} {bytes : ByteArray} {maxL index n mc ms sz : Nat} {ret : Option FieldType} {rm : Room} (M : iv_MF W0 y bytes maxL ret n) (hstat : Cond.static y ∈ W0) (hl : Cond.methodLink own index y ∈ W0) (hB : iv_M sh D cl tys base f G s.heap H locs) {O : Heap → Prop} (hO : O H) (hsz : sz = H.size)
    {As : List Value} {post : iv_G → Nat → Prop} (hM : Met l y (Cond.code y bytes maxL ret :: W0) rm (iv_PcM sh D cl tys base G sz O As) (iv_QrM sh D cl tys base sz post) mc ms (iv_A sz)) (hr0 : rm.cells = mc ∧ rm.slots = ms) (hR : rm.frames + 1 ≤ R.frames ∧ 8 + (maxL + 11) + rm.locals ≤ R.locals) (hRc : cells + mc ≤ R.cells ∧ slots + ms ≤ R.slots) {st0 : List Value} (hst : st0 = As.reverse ++ rest) (hn : As.length = n) (hsize : ls.size = nL) (hcat : (rest.map fun v => v.category).sum ≤ 8) (hdg : decode cc pc = .ok (.invokestatic index, 3))
    (kk : ∀ (q : Nat) (G1 : iv_G) (H1 : Heap) (locs1 : List Loc), post G1 q → H.size ≤ H1.size → (∀ x, x < H.size → H1[x]? = H[x]?) → iv_M sh D cl tys base f G1 s.heap H1 locs1 → W p l e R s m args below meth c H1 locs1 (cells + mc) (slots + ms) Q (F0 m (pc + 3) ls (.ref q :: rest))) : W p l e R s m args below meth c H locs cells slots Q (F0 m pc ls st0) := by
  subst hsz
  refine va_callr (va_runS (As := As) (rest := rest) X.1 hM ⟨iv_callB X hW0 M hl hr0 hR, X.1.2.2.2.2 _ hstat⟩ ⟨iv_PcM_blind, iv_preM X hB hO⟩ rfl hn hsize hst (lv_room hcat) hdg hRc) hB.2.1 (fun q _ h => Nat.le_trans hB.sz h) (fun q h => Nat.le_trans hB.sz h) (fun u ra t H1 locs1 ht hvm hw hb1 hz1 hk1 hS => ?_)
  exact kk ra u H1 locs1 hb1.2 hz1 (fun x h2 => hk1 x h2 (fun h3 => absurd (show H.size ≤ x from h3) (by omega))) ⟨by rw [← ht]; exact hb1.1.1, hS, hB.2.2⟩
theorem iv_vretM {post : iv_G → Prop} (X : iv_X p m c cc nL s args W0 own D cl tys base) (hr : meth.sig.returnType = none) (hlocks : meth.locks = false) (hB : iv_M sh D cl tys base f G s.heap H locs) (hq : post G) (hdg : decode cc pc = .ok (.return_, 1)) : W p l e R s m args below meth c H locs cells slots (MQ below (iv_QvM sh D cl tys base f post) args s cells slots (iv_A f)) (F0 m pc ls []) :=
  W.vret X.1.1 X.1.2.1 hr (fun t ht hW => ⟨⟨G, rfl, hq, by rw [iv_W, ht]; exact ⟨hB.1, va_K.moved hW.alike X.2.1⟩⟩, hB.2.1.F ht⟩) hB.2.1.2.2 hdg hlocks
theorem iv_aretM {post : iv_G → Nat → Prop} {q : Nat} {ty : FieldType} (X : iv_X p m c cc nL s args W0 own D cl tys base) (hr : meth.sig.returnType = some ty) (hlocks : meth.locks = false) (hB : iv_M sh D cl tys base f G s.heap H locs) (hq : post G q) (hn : (∃ n, ty = .object n) ∨ ∃ t, ty = .array t) (hdg : decode cc pc = .ok (.areturn, 1)) : W p l e R s m args below meth c H locs cells slots (MQ below (iv_QrM sh D cl tys base f post) args s cells slots (iv_A f)) (F0 m pc ls [.ref q]) :=
  W.aret X.1.1 X.1.2.1 hr hn (Or.inr ⟨_, rfl⟩) (fun t ht hW => ⟨⟨G, q, rfl, trivial, ⟨by rw [iv_W, ht]; exact ⟨hB.1, va_K.moved hW.alike X.2.1⟩, hq⟩⟩, hB.2.1.F ht⟩) hB.2.1.2.2 hdg hlocks
end IVN
theorem iv_headM {l : Launch} {sh : Nat → iv_Sh} {D : va_G} {cl : List vw_C} {tys : List (ClassId × FieldType)} {base f sz : Nat} {G : iv_G} {W0 : List Cond} {y : MethodName} {cc : ByteArray} {maxL : Nat} {ret : Option FieldType} {rm : Room} {av : List Value} {O : Heap → Prop} {Qc : Array Value → State → Outcome → State → Prop} {mc ms : Nat} {free : Addr → Prop} (hbf : base ≤ f) (hfs : f ≤ sz) (hy : plainName y.cls = true) (hlen : (lg_sl av).length ≤ maxL)
    (body : ∀ (p : Program) (e : Env) (s : State) (m : MethodId) (args : Array Value) (below : List Frame) (meth : Method) (c : Code) (ls : Array Slot), iv_X p m c cc maxL s args W0 y.cls D cl tys base → meth.sig.returnType = ret → meth.locks = false → meth.name = y.name → sz = s.heap.size → O s.heap → iv_M sh D cl tys base f G s.heap s.heap [] → lv_has ls maxL (lv_args 0 av) →
      W p l e rm s m args below meth c s.heap [] 0 0 (MQ below Qc args s mc ms free) (F0 m 0 ls [])) : Met l y (Cond.code y cc maxL ret :: W0) rm (iv_PcM sh D cl tys base G sz O av) Qc mc ms free := by
  refine Met.ofW (cc := cc) (maxL := maxL) (ret := ret) hy rfl ?_
  intro p e s m args below meth c s₁ B hml hv
  obtain ⟨rfl, hI, hK, hsz, hO⟩ := hv
  have hts := atoms_spec (ws := Cond.code y cc maxL ret :: W0) B.pre
  have hl := lv_entry av (n := maxL) hlen
  rw [lg_entry_eq]
  exact body p e s m _ below meth c _ ⟨⟨B.exec, B.bytes, hml, findClass_of_methodNamed B.named, fun w hw => hts w (List.mem_cons_of_mem _ hw)⟩, hK⟩ B.returns B.notSynchronized (name_of_methodNamed B.named B.method).1 hsz.symm hO ⟨hI, va_S.rf, hbf, by omega⟩ hl
section IVC
variable {p : Program} {l : Launch} {e : Env} {R : Room} {s : State} {m : MethodId} {args : Array Value} {below : List Frame} {meth : Method} {c : Code} {H : Heap} {locs : List Loc} {cells slots : Nat} {Q : State → Prop}
variable {cc : ByteArray} {nL pc : Nat} {ls : Array Slot} {rest : List Value} {D : va_G} {cl : List vw_C} {tys : List (ClassId × FieldType)} {base f : Nat} {G : iv_G} {H0 : Heap} {a b : Nat} {W0 : List Cond} {own : String} {sh : Nat → iv_Sh}
theorem iv_nnI {z : Int32} (hz : ¬ z < 0) : z.toInt = (z.toNatClampNeg : Int) := by
  have h0 : (0 : Int) ≤ z.toInt := by
    have := Int32.le_iff_toInt_le.mp (Int32.not_lt.mp hz)
    simpa using this
  show z.toInt = ((z.toInt.toNat : Nat) : Int)
  omega
/-- System.arraycopy between two arrays of numbers, over cells -/
theorem iv_acopy (X : iv_X p m c cc nL s args W0 own D cl tys base) {a0 : Nat} {cA : ClassId} {n0 n1 index : Nat} {f0 g0 : Nat → Int32} (ht : tys[0]? = some (cA, .int)) (hc0 : H[a0]? = some (vp_cell cA (n0, .inl f0))) (hc1 : H[a]? = some (vp_cell cA (n1, .inl g0))) (hl : Cond.methodLink own index arraycopyName ∈ W0) (hnat : Cond.native arraycopyName ∈ W0) (hstat : Cond.static arraycopyName ∈ W0) (hini : Cond.initialized "java/lang/System" ∈ W0)
    {sp dp n : Int32} (h1 : ¬ sp < 0) (h2 : ¬ dp < 0) (h3 : ¬ n < 0) (h4 : sp.toNatClampNeg + n.toNatClampNeg ≤ n0) (h5 : dp.toNatClampNeg + n.toNatClampNeg ≤ n1) (hsize : ls.size = nL) (hframes : 1 ≤ R.frames) (hlocals : (rest.map fun v => v.category).sum + (nativeFrameWords "java/lang/System" "arraycopy" 5 + 11) ≤ R.locals) (hdg : decode cc pc = .ok (.invokestatic index, 3))
    (kk : ∀ (H1 : Heap) (L : List Loc), H1[a]? = some (vp_cell cA (n1, .inl (va_cpy f0 g0 sp.toNatClampNeg dp.toNatClampNeg n.toNatClampNeg))) → H1.size = H.size → (∀ q : Nat, q ≠ a → H1[q]? = H[q]?) → (∀ q ∈ L, q.base = a) → W p l e R s m args below meth c H1 (locs ++ L) cells slots Q (F0 m (pc + 3) ls rest)) : W p l e R s m args below meth c H locs cells slots Q (F0 m pc ls (.int n :: .int dp :: .ref a :: .int sp :: .ref a0 :: rest)) := by
  obtain ⟨⟨hexec, hb, hml, hown, hts⟩, hK, -⟩ := X
  intro T hT Y
  obtain ⟨-, k0, hk0, cm0, hkk0⟩ := (hK.2 0 _ ht).1 n0 (fun j => .int (f0 j))
  obtain ⟨-, k1, hk1, cm1, hkk1⟩ := (hK.2 0 _ ht).1 n1 (fun j => .int (g0 j))
  obtain ⟨vm', Y', step⟩ := Y.arraycopy hexec hown (hts _ hl) (hts _ hnat) (hts _ hstat) (hts _ hini) (src := a0) (dst := a) (cs := vp_cell cA (n0, .inl f0)) (cd := vp_cell cA (n1, .inl g0)) (srcPos := sp) (destPos := dp) (n := n) (by rw [hT]; exact hc0) (by rw [hT]; exact hc1)
    (fun _ h => by cases h) (fun _ h => by cases h) (fun h => by cases h) (fun h => by cases h) hk0 hk1 hkk0 hkk1 (by simp [refKind]) h1 h2 h3
    (by rw [iv_nnI h1, iv_nnI h3]; show ¬ _ > ((arrV cA n0 (fun j => .int (f0 j))).slots.size : Int); rw [arrV_size]; omega)
    (by rw [iv_nnI h2, iv_nnI h3]; show ¬ _ > ((arrV cA n1 (fun j => .int (g0 j))).slots.size : Int); rw [arrV_size]; omega)
    (fun vm₁ _ i hi => by
      have e9 : (vp_cell cA (n0, .inl f0)).slots.getD (sp.toNatClampNeg + i) .null = .int (f0 (sp.toNatClampNeg + i)) := by
        show (arrV cA n0 (fun j => .int (f0 j))).slots.getD _ _ = _
        rw [Array.getD_eq_getD_getElem?, arrV_read _ _ (by omega)]
        rfl
      rw [e9]
      exact ⟨rfl, trivial⟩)
    (g := F0 m pc ls (.int n :: .int dp :: .ref a :: .int sp :: .ref a0 :: rest)) rfl (by rw [hml]; exact hsize) (rest := rest) rfl (by rw [hb]; exact hdg) hframes (by show 2 * 0 + _ + _ ≤ _; omega)
  have e1 : copied (vp_cell cA (n0, .inl f0)) (vp_cell cA (n1, .inl g0)) sp dp n = vp_cell cA (n1, .inl (va_cpy f0 g0 sp.toNatClampNeg dp.toNatClampNeg n.toNatClampNeg)) := va_copied (fun z => .int z) cA cA f0 g0 h4
  rw [e1] at Y' step
  have hlt : a < H.size := (Array.getElem?_eq_some_iff.mp hc1).1
  obtain ⟨t, a1, b1⟩ := kk (H.setIfInBounds a (vp_cell cA (n1, .inl (va_cpy f0 g0 sp.toNatClampNeg dp.toNatClampNeg n.toNatClampNeg)))) _ (by simp [Array.getElem?_setIfInBounds, hlt]) (by simp) (fun q hq => by simp [Array.getElem?_setIfInBounds, Ne.symm hq]) (fun q hq => by
      obtain ⟨z, -, hz⟩ := List.mem_map.mp hq
      rw [← hz]) _ (by rw [← hT]; rfl) Y'
  exact ⟨t, step t a1, b1⟩
/-- the same over the typed store -/
theorem iv_acopyB (X : iv_X p m c cc nL s args W0 own D cl tys base) (hB : iv_B sh D cl tys base G H0 H locs) {a0 cd0 cd1 n0 n1 index : Nat} {f0 g0 : Nat → Int32} {r0 r1 : Nat → Nat} {P0 P1 : (Nat → Int32) → Prop} (ha0 : G a0 = some (cd0, f0, r0)) (ha1 : G a = some (cd1, g0, r1)) (hs0 : sh cd0 = .inr (.inl (n0, P0))) (hs1 : sh cd1 = .inr (.inl (n1, P1))) (hl : Cond.methodLink own index arraycopyName ∈ W0) (hnat : Cond.native arraycopyName ∈ W0) (hstat : Cond.static arraycopyName ∈ W0) (hini : Cond.initialized "java/lang/System" ∈ W0)
    {sp dp n : Int32} (h1 : ¬ sp < 0) (h2 : ¬ dp < 0) (h3 : ¬ n < 0) (h4 : sp.toNatClampNeg + n.toNatClampNeg ≤ n0) (h5 : dp.toNatClampNeg + n.toNatClampNeg ≤ n1) (hsize : ls.size = nL) (hframes : 1 ≤ R.frames) (hlocals : (rest.map fun v => v.category).sum + (nativeFrameWords "java/lang/System" "arraycopy" 5 + 11) ≤ R.locals) (hP : P0 f0 → P1 g0 → P1 (va_cpy f0 g0 sp.toNatClampNeg dp.toNatClampNeg n.toNatClampNeg)) (hdg : decode cc pc = .ok (.invokestatic index, 3))
    (kk : ∀ (H1 : Heap) (locs1 : List Loc), iv_B sh D cl tys base (iv_up G a (cd1, va_cpy f0 g0 sp.toNatClampNeg dp.toNatClampNeg n.toNatClampNeg, r1)) H0 H1 locs1 → W p l e R s m args below meth c H1 locs1 cells slots Q (F0 m (pc + 3) ls rest)) : W p l e R s m args below meth c H locs cells slots Q (F0 m pc ls (.int n :: .int dp :: .ref a :: .int sp :: .ref a0 :: rest)) := by
  obtain ⟨cA, t0, c0, p0⟩ := (hB.got ha0).arr hs0
  obtain ⟨cA', t1, c1, p1⟩ := (hB.got ha1).arr hs1
  obtain rfl : cA = cA' := by
    have := t0.symm.trans t1
    cases this
    rfl
  refine iv_acopy X t0 c0 c1 hl hnat hstat hini h1 h2 h3 h4 h5 hsize hframes hlocals hdg fun H1 L e1 z1 o1 hL => ?_
  refine kk H1 _ ⟨fun b kb hb => ?_, ⟨by rw [z1]; exact hB.2.1.1, fun q g1 g2 => (o1 q (fun e => g2 (by rw [e]; exact (hB.1 a _ ha1).1))).trans (hB.2.1.2.1 q g1 g2), fun q hq => ?_⟩, hB.2.2⟩
  · by_cases e : b = a
    · subst e
      rw [iv_up_eq] at hb
      cases hb
      refine ⟨(hB.1 b _ ha1).1, ?_⟩
      unfold iv_C
      show match sh cd1 with | .inl _ => _ | .inr (.inl _) => _ | .inr (.inr _) => _
      rw [hs1]
      exact ⟨cA, t0, e1, hP p0 p1⟩
    · rw [iv_up_ne e] at hb
      exact ⟨(hB.1 b _ hb).1, iv_C_mono (fun b' kb' h' => iv_up_pres (k := (cd1, va_cpy f0 g0 sp.toNatClampNeg dp.toNatClampNeg n.toNatClampNeg, r1)) ha1 rfl h') (o1 b e) (hB.1 b _ hb).2⟩
  · rcases List.mem_append.mp hq with h | h
    · exact hB.2.1.2.2 q h
    · rw [hL q h]
      exact (hB.1 a _ ha1).1
/-- an array's clone -/
theorem iv_clone (X : iv_X p m c cc nL s args W0 own D cl tys base) {n0 index : Nat} {cA : ClassId} {f0 : Nat → Int32} (hsz : H = s.heap) (ht : tys[0]? = some (cA, .int)) (hc0 : H[a]? = some (vp_cell cA (n0, .inl f0))) (hl : Cond.methodLink own index ⟨"[I", "clone", "()Ljava/lang/Object;"⟩ ∈ W0) (hsame : Cond.sameMethod "[I" "java/lang/Object" "clone" "()Ljava/lang/Object;" ∈ W0) (hnat : Cond.native ⟨"java/lang/Object", "clone", "()Ljava/lang/Object;"⟩ ∈ W0) (hinst : Cond.instanceMethod ⟨"java/lang/Object", "clone", "()Ljava/lang/Object;"⟩ ∈ W0) (hsel : Cond.selects "[I" ⟨"[I", "clone", "()Ljava/lang/Object;"⟩ ⟨"java/lang/Object", "clone", "()Ljava/lang/Object;"⟩ ∈ W0)
    (hsize : ls.size = nL) (hframes : 1 ≤ R.frames) (hlocals : (rest.map fun v => v.category).sum + 14 ≤ R.locals) (hcells : cells + 1 ≤ R.cells) (hslots : slots + n0 ≤ R.slots) (hdg : decode cc pc = .ok (.invokevirtual index, 3))
    (kk : ∀ (q : Nat) (H1 : Heap), H1[q]? = some (vp_cell cA (n0, .inl f0)) → H.size ≤ q → (∀ x, x < H.size → H1[x]? = H[x]?) → H.size ≤ H1.size → s.vm.findClass "[I" = some cA → W p l e R s m args below meth c H1 [] (cells + 1) (slots + n0) Q (F0 m (pc + 3) ls (.ref q :: rest))) : W p l e R s m args below meth c H [] cells slots Q (F0 m pc ls (.ref a :: rest)) := by
  have hX := X
  obtain ⟨⟨hexec, hb, hml, hown, hts⟩, hK, hN⟩ := hX
  have hnm : s.vm.findClass "[I" = some cA := (hK.2 0 _ ht).2
  have hP : va_P D cl [(a, .inl (cA, (n0, .inl f0)))] H := fun k x hx => by
    have hz : k < 1 := (List.getElem?_eq_some_iff.mp hx).1
    rw [show k = 0 by omega] at hx
    cases hx
    exact hc0
  have hA : ∀ (q : Nat), H.size ≤ q → (fun q => q = a ∨ H.size ≤ q) q := fun q h => Or.inr h
  have hD : va_D (fun q => q = a ∨ H.size ≤ q) [(a, .inl (cA, (n0, .inl f0)))] := ⟨fun i j x y hx hy _ => by
    have h1 : i < 1 := (List.getElem?_eq_some_iff.mp hx).1
    have h2 : j < 1 := (List.getElem?_eq_some_iff.mp hy).1
    omega, fun k x hx => by
    have hz : k < 1 := (List.getElem?_eq_some_iff.mp hx).1
    rw [show k = 0 by omega] at hx
    cases hx
    exact Or.inl rfl⟩
  refine va_clone (A := fun q => q = a ∨ H.size ≤ q) hexec hb (by rw [hml]; exact hsize.symm) hown (hts _ hl) (hts _ hsame) (hts _ hnat) (hts _ hinst) (hts _ hsel) hN.2.2.2.2.2.1 hK hP hD (va_S.rf (H0 := H)) hA 0 0 rfl ht hnm (fun i v hv => ?_) hframes hlocals hcells hslots hdg (fun q H1 _ hP1 hD1 hS1 => ?_)
  · have hv : (arrV cA n0 (fun j => .int (f0 j))).slots[i]? = some v := hv
    have hi : i < n0 := by
      have := (Array.getElem?_eq_some_iff.mp hv).1
      rwa [arrV_size] at this
    rw [arrV_read _ _ hi] at hv
    cases hv
    rfl
  · have hq : q = a ∨ H.size ≤ q := hD1.2 1 (q, .inl (cA, (n0, .inl f0))) rfl
    have hne : q ≠ a := fun e9 => absurd (hD1.1 1 0 _ _ rfl rfl e9) (by decide)
    refine kk q H1 (hP1 1 _ rfl) (hq.resolve_left hne) (fun x hx => ?_) hS1.1 hnm
    by_cases e9 : x = a
    · subst e9
      exact (hP1 0 _ rfl).trans hc0.symm
    · exact hS1.2.1 x hx (fun h => h.elim e9 (fun h => absurd h (by omega)))
end IVC
