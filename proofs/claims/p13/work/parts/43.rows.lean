/-! an array of arrays of numbers: the two counts of multianewarray -/
def iv_oc (cA : ClassId) (N h i : Nat) : Cell := arrV cA N (fun j => if j < i then .ref (h + 1 + j) else .null)
theorem iv_oc.set {cA : ClassId} {N h i : Nat} : (iv_oc cA N h i).setSlot i (.ref (h + 1 + i)) = iv_oc cA N h (i + 1) := by
  unfold iv_oc
  rw [arrV_store]
  refine arrV_cong (fun j _ => ?_)
  unfold updV
  by_cases e : j = i
  · rw [if_pos e, e, if_pos (Nat.lt_succ_self i)]
  · rw [if_neg e]
    show (if j < i then Value.ref (h + 1 + j) else Value.null) = _
    by_cases q : j < i
    · rw [if_pos q, if_pos (Nat.lt_succ_of_lt q)]
    · rw [if_neg q, if_neg (by omega)]
def iv_rw (S : State) (cA cI : ClassId) (N M : Nat) : Nat → State
  | 0 => S.pushCell (iv_oc cA N S.heap.size 0)
  | i + 1 => ((iv_rw S cA cI N M i).pushCell (arrV cI M (fun _ => .int 0))).setCell S.heap.size (iv_oc cA N S.heap.size (i + 1))
theorem iv_oc.size {cA : ClassId} {N h i : Nat} : (iv_oc cA N h i).slots.size = N := arrV_size _ _ _
theorem iv_rw.facts (S : State) (cA cI : ClassId) (N M : Nat) : ∀ i, (iv_rw S cA cI N M i).heap.size = S.heap.size + 1 + i ∧ (iv_rw S cA cI N M i).heap[S.heap.size]? = some (iv_oc cA N S.heap.size i) ∧ (iv_rw S cA cI N M i).vm = S.vm ∧ (iv_rw S cA cI N M i).slotsUsed = S.slotsUsed + N + i * M := by
  intro i
  induction i with
  | zero => exact ⟨by simp [iv_rw], State.heap_pushCell_size _ _, rfl, by simp [iv_rw, iv_oc.size]⟩
  | succ i ih =>
    obtain ⟨h1, h2, h3, h4⟩ := ih
    have hlt : S.heap.size < (iv_rw S cA cI N M i).heap.size := by omega
    have h5 : ((iv_rw S cA cI N M i).pushCell (arrV cI M (fun _ => .int 0))).heap[S.heap.size]? = some (iv_oc cA N S.heap.size i) := by
      rw [State.heap_pushCell_of_lt (h := hlt)]
      exact h2
    refine ⟨?_, State.heap_setCell_self h5, ?_, ?_⟩
    · simp [iv_rw, State.setCell, h1]
      omega
    · simp [iv_rw, h3]
    · simp [iv_rw, h4, arrV_size, Nat.succ_mul]
      omega
theorem iv_rw.old (S : State) (cA cI : ClassId) (N M : Nat) {x : Nat} (hx : x < S.heap.size) : ∀ i, (iv_rw S cA cI N M i).heap[x]? = S.heap[x]? := by
  intro i
  induction i with
  | zero => exact State.heap_pushCell_of_lt _ _ hx
  | succ i ih =>
    have h1 := (iv_rw.facts S cA cI N M i).1
    have hlt : x < (iv_rw S cA cI N M i).heap.size := by omega
    show (((iv_rw S cA cI N M i).pushCell (arrV cI M (fun _ => .int 0))).setCell S.heap.size (iv_oc cA N S.heap.size (i + 1))).heap[x]? = _
    rw [State.heap_setCell_other (Nat.ne_of_gt hx), State.heap_pushCell_of_lt (h := hlt)]
    exact ih
theorem iv_rw.row (S : State) (cA cI : ClassId) (N M : Nat) : ∀ i j, j < i → (iv_rw S cA cI N M i).heap[S.heap.size + 1 + j]? = some (arrV cI M (fun _ => .int 0)) := by
  intro i
  induction i with
  | zero => exact fun j hj => absurd hj (Nat.not_lt_zero _)
  | succ i ih =>
    intro j hj
    have h1 := (iv_rw.facts S cA cI N M i).1
    show (((iv_rw S cA cI N M i).pushCell (arrV cI M (fun _ => .int 0))).setCell S.heap.size (iv_oc cA N S.heap.size (i + 1))).heap[S.heap.size + 1 + j]? = _
    rw [State.heap_setCell_other (show S.heap.size ≠ S.heap.size + 1 + j by omega)]
    by_cases e : j = i
    · rw [e, ← h1]
      exact State.heap_pushCell_size _ _
    · have hlt : S.heap.size + 1 + j < (iv_rw S cA cI N M i).heap.size := by omega
      rw [State.heap_pushCell_of_lt (h := hlt)]
      exact ih j (by omega)
theorem iv_rw.top (S : State) (g : JFrame) (cA cI : ClassId) (N M : Nat) : ∀ i, iv_rw (S.setTop g) cA cI N M i = (iv_rw S cA cI N M i).setTop g := by
  intro i
  induction i with
  | zero => rfl
  | succ i ih => simp only [iv_rw, ih, State.heap_setTop, State.pushCell_setTop, State.setCell_setTop]
theorem iv_rw.stand {p : Program} {l : Launch} {e : Env} {R : Room} {s : State} {m : MethodId} {args : Array Value} {below : List Frame} {meth : Method} {c : Code} {T : State} {locs : List Loc} {cells slots : Nat} (X : Stand p l e R s m args below meth c T locs cells slots) (cA cI : ClassId) (N M : Nat) : ∀ i, Stand p l e R s m args below meth c (iv_rw T cA cI N M i) (locs ++ (List.range i).map fun j => ⟨T.heap.size, j⟩) (cells + 1 + i) (slots + N + i * M) := by
  intro i
  induction i with
  | zero =>
    have h := X.pushed (iv_oc cA N T.heap.size 0)
    rw [iv_oc.size] at h
    simpa [iv_rw] using h
  | succ i ih =>
    obtain ⟨h1, h2, h3, h4⟩ := iv_rw.facts T cA cI N M i
    have hlt : T.heap.size < (iv_rw T cA cI N M i).heap.size := by omega
    have h5 : ((iv_rw T cA cI N M i).pushCell (arrV cI M (fun _ => .int 0))).heap[T.heap.size]? = some (iv_oc cA N T.heap.size i) := by
      rw [State.heap_pushCell_of_lt (h := hlt)]
      exact h2
    have h := (ih.pushed (arrV cI M (fun _ => .int 0))).stored h5 i (.ref (T.heap.size + 1 + i))
    rw [arrV_size, iv_oc.set] at h
    have e2 : (locs ++ (List.range (i + 1)).map fun j => (⟨T.heap.size, j⟩ : Loc)) = (locs ++ (List.range i).map fun j => (⟨T.heap.size, j⟩ : Loc)) ++ [⟨T.heap.size, i⟩] := by
      simp [List.range_succ, List.append_assoc]
    have e3 : slots + N + (i + 1) * M = slots + N + i * M + M := by
      rw [Nat.succ_mul]
      omega
    rw [e2, e3]
    exact h
theorem iv_refFit {v : Value} (hv : v = .null ∨ ∃ a, v = .ref a) : fits (.array .int) v = true := by
  rcases hv with h | ⟨a, h⟩ <;> (rw [h]; rfl)
section IVMK
variable {E : CtlPost} {e : Env} {d : Bool} {acts : List Action} {S : State}
theorem iv_make1 {cI cc : ClassId} {kc : Class} {mm : Int32} (hkc : S.vm.classes[cI]? = some kc) (hkindc : kc.kind = .array cc .int) (hm : ¬ mm < 0) (hl : ¬ mm.toNatClampNeg > e.platform.arrayLengthLimit) (hh : ¬ mm.toNatClampNeg * componentBytes .int > e.platform.maxHeapBytes) (h1 : S.heap.size < e.platform.maxCells) (h2 : S.slotsUsed + mm.toNatClampNeg ≤ e.platform.maxSlots)
    {Q : Addr → Pre} (hq : ∀ acts', Q S.heap.size d acts' (S.pushCell (arrV cI mm.toNatClampNeg (fun _ => .int 0)))) : wp (multianewarray.make cI [mm]) Q E e d acts S := by
  rw [multianewarray.make]
  simp only [wp_bind', W.ite, hm, if_false, wp_pure', W.theClass, hkc, hkindc, Option.some.injEq, exists_eq_left']
  refine W.newArray_of hkc hkindc hl hh h1 h2 rfl (fun acts' => ?_)
  have h := hq acts'
  rw [← arrV_new] at h
  exact h
theorem iv_make2 {cA cI cc : ClassId} {k kc : Class} {nn mm : Int32} (hk : S.vm.classes[cA]? = some k) (hkind : k.kind = .array cI (.array .int)) (hkc : S.vm.classes[cI]? = some kc) (hkindc : kc.kind = .array cc .int) (hn : ¬ nn < 0) (hm : ¬ mm < 0)
    (hl1 : ¬ nn.toNatClampNeg > e.platform.arrayLengthLimit) (hh1 : ¬ nn.toNatClampNeg * componentBytes (.array .int) > e.platform.maxHeapBytes) (hl2 : ¬ mm.toNatClampNeg > e.platform.arrayLengthLimit) (hh2 : ¬ mm.toNatClampNeg * componentBytes .int > e.platform.maxHeapBytes)
    (hc : S.heap.size + 1 + nn.toNatClampNeg ≤ e.platform.maxCells) (hs : S.slotsUsed + nn.toNatClampNeg + nn.toNatClampNeg * mm.toNatClampNeg ≤ e.platform.maxSlots)
    {Q : Addr → Pre} (hq : ∀ d' acts', Q S.heap.size d' acts' (iv_rw S cA cI nn.toNatClampNeg mm.toNatClampNeg nn.toNatClampNeg)) : wp (multianewarray.make cA [nn, mm]) Q E e d acts S := by
  have hfind : ([mm].find? (· < 0)) = none := by simp [hm]
  rw [multianewarray.make]
  simp only [wp_bind', W.ite, hn, if_false, wp_pure', W.theClass, hk, hkind, Option.some.injEq, exists_eq_left']
  refine W.newArray_of hk hkind hl1 hh1 (by omega) (by have := Nat.zero_le (nn.toNatClampNeg * mm.toNatClampNeg); omega) (iv_refFit (Or.inl rfl)) (fun acts1 => ?_)
  simp only [hfind]
  rw [ite_self, wp_bind', Std.Legacy.Range.forIn_eq_forIn_range']
  have hsz : ([:nn.toNatClampNeg] : Std.Legacy.Range).size = nn.toNatClampNeg := by simp [Std.Legacy.Range.size]
  rw [hsz]
  show wp (forIn (List.range' 0 nn.toNatClampNeg 1) PUnit.unit _) _ E e d acts1 _
  have e0 : S.pushCell { cls := cA, slots := Array.replicate nn.toNatClampNeg .null } = iv_rw S cA cI nn.toNatClampNeg mm.toNatClampNeg 0 := by
    show _ = S.pushCell (iv_oc cA nn.toNatClampNeg S.heap.size 0)
    congr 1
    unfold iv_oc
    rw [arrV_cong (g := fun _ => .null) (fun j _ => if_neg (Nat.not_lt_zero j))]
    exact arrV_new cA _ _
  rw [e0]
  refine wp_forIn_inv (fun rest s' => ∃ i, i ≤ nn.toNatClampNeg ∧ rest = List.range' i (nn.toNatClampNeg - i) ∧ s' = iv_rw S cA cI nn.toNatClampNeg mm.toNatClampNeg i) _ _ ⟨0, Nat.zero_le _, rfl, rfl⟩ ?_ ?_
  · intro x rest s' d' acts' Q' hI hnext
    obtain ⟨i, hi, hl, hs'⟩ := hI
    have hlt : i < nn.toNatClampNeg := by
      rcases Nat.lt_or_ge i nn.toNatClampNeg with h | h
      · exact h
      · rw [show nn.toNatClampNeg - i = 0 from by omega] at hl
        simp at hl
    rw [show nn.toNatClampNeg - i = (nn.toNatClampNeg - (i + 1)) + 1 from by omega, List.range'_succ] at hl
    have hx : x = i := (List.cons.inj hl).1
    have hrest : rest = List.range' (i + 1) (nn.toNatClampNeg - (i + 1)) := (List.cons.inj hl).2
    rw [hs', hx]
    obtain ⟨f1, f2, f3, f4⟩ := iv_rw.facts S cA cI nn.toNatClampNeg mm.toNatClampNeg i
    have hmul : i * mm.toNatClampNeg + mm.toNatClampNeg ≤ nn.toNatClampNeg * mm.toNatClampNeg := by
      have := Nat.mul_le_mul_right mm.toNatClampNeg (show i + 1 ≤ nn.toNatClampNeg from hlt)
      rw [Nat.succ_mul] at this
      exact this
    simp only [wp_bind']
    refine iv_make1 (by rw [f3]; exact hkc) hkindc hm hl2 hh2 (by rw [f1]; omega) (by rw [f4]; omega) (fun acts2 => ?_)
    have hlt0 : S.heap.size < (iv_rw S cA cI nn.toNatClampNeg mm.toNatClampNeg i).heap.size := by rw [f1]; omega
    simp only [wp_bind', W.writeLoc, wp_pure']
    refine ⟨iv_oc cA nn.toNatClampNeg S.heap.size i, by rw [State.heap_pushCell_of_lt (h := hlt0)]; exact f2, by unfold iv_oc arrV; simp, by rw [iv_oc.size]; exact hlt, ?_, hnext _ _ _ ⟨i + 1, hlt, hrest, ?_⟩⟩
    · have g1 : (iv_oc cA nn.toNatClampNeg S.heap.size i).cls = cA := rfl
      have g2 : (iv_oc cA nn.toNatClampNeg S.heap.size i).vm = .none := rfl
      rw [g1, g2]
      simp [State.fitsSlot, State.slotType?, f3, hk, hkind, iv_refFit (Or.inr ⟨_, rfl⟩)]
    · rw [f1, iv_oc.set]
      rfl
  · intro s' d' acts' hI
    obtain ⟨i, hi, hl, hs'⟩ := hI
    have hiN : i = nn.toNatClampNeg := by
      rcases Nat.lt_or_ge i nn.toNatClampNeg with h | h
      · rw [show nn.toNatClampNeg - i = (nn.toNatClampNeg - (i + 1)) + 1 from by omega, List.range'_succ] at hl
        cases hl
      · omega
    rw [hs', hiN]
    simp only [wp_pure']
    exact hq _ _
end IVMK
section IVMS
variable {p : Program} {l : Launch} {e : Env} {R : Room} {s : State} {m : MethodId} {args : Array Value} {below : List Frame} {meth : Method} {c : Code} {H : Heap} {locs : List Loc} {cells slots : Nat} {Q : State → Prop}
variable {cc : ByteArray} {nL pc : Nat} {ls : Array Slot} {rest : List Value} {D : va_G} {cl : List vw_C} {tys : List (ClassId × FieldType)} {base f : Nat} {G : iv_G} {H0 : Heap} {a b : Nat} {W0 : List Cond} {own : String}
theorem iv_mnaS {T : State} (X : Stand p l e R s m args below meth c T locs cells slots) (hexec : p.tables.exec = Jvm.exec) {index : Nat} (hown : s.vm.findClass own = some m.cls) (hclink : (Cond.classLink own index ("[" ++ (FieldType.array .int).toString)).before args s = true) (hover : (Cond.arrayOver (.array .int)).before #[] s = true) (harr : (Cond.arrayClass .int).before args s = true)
    {g : JFrame} (hg : g.method = m) (hdg : decode c.code g.pc = .ok (.multianewarray index 2, 4)) {n k : Int32} (hstack : g.stack = .int k :: .int n :: rest) (hn : ¬ n < 0) (hk : ¬ k < 0) (hb1 : n.toNatClampNeg * 4 ≤ 536870912) (hb2 : k.toNatClampNeg * 4 ≤ 536870912)
    (hcells : cells + (1 + n.toNatClampNeg) ≤ R.cells) (hslots : slots + (n.toNatClampNeg + n.toNatClampNeg * k.toNatClampNeg) ≤ R.slots) :
    ∃ (vm₁ : Vm) (cA cI : ClassId), s.vm.findClass ("[" ++ (FieldType.array .int).toString) = some cA ∧ s.vm.findClass (FieldType.array .int).toString = some cI ∧
      Stand p l e R s m args below meth c (iv_rw (T.setVm vm₁) cA cI n.toNatClampNeg k.toNatClampNeg n.toNatClampNeg) (locs ++ (List.range n.toNatClampNeg).map fun j => ⟨T.heap.size, j⟩) (cells + 1 + n.toNatClampNeg) (slots + n.toNatClampNeg + n.toNatClampNeg * k.toNatClampNeg) ∧
      ∀ target, Steps p.tables e below ((iv_rw (T.setVm vm₁) cA cI n.toNatClampNeg k.toNatClampNeg n.toNatClampNeg).setTop { g with pc := g.pc + 4, stack := .ref T.heap.size :: rest }) target → Steps p.tables e below (T.setTop g) target := by
  subst hg
  have hpl : e.platform.magicAccessors = ({} : Platform).magicAccessors := by rw [X.admits.platform]
  obtain ⟨cI, cA, kA, hcomp, hidx, hkA, hkindA, hnameA⟩ := arrayOverA_spec hover
  obtain ⟨cI', kC, cc', hcomp', hkC, hkindC⟩ := Cond.arrayClass_spec harr
  have ecomp : cI' = cI := Option.some.inj (hcomp'.symm.trans hcomp)
  rw [ecomp] at hkC
  obtain ⟨c0, hfc0, hcl⟩ := Cond.classLink_spec hown hclink e.platform hpl
  have ec0 : c0 = cA := Option.some.inj (hfc0.symm.trans hnameA)
  rw [ec0] at hcl
  obtain ⟨hg₁, hwarm₁, hready₁⟩ := State.classEntry (e := e) X.warmed hcl
  generalize T.vm.noted g.method.cls index (.cls cA) = vm₁ at hg₁ hwarm₁ hready₁
  have hal : s.vm.Alike vm₁ := hwarm₁.alike
  obtain ⟨kA₁, hkA₁, heA⟩ := hal.2.2 _ _ hkA
  obtain ⟨kC₁, hkC₁, heC⟩ := hal.2.2 _ _ hkC
  have hkindA₁ : kA₁.kind = .array cI (.array .int) := by rw [heA]; exact hkindA
  have hkindC₁ : kC₁.kind = .array cc' .int := by rw [heC]; exact hkindC
  have X₁ := X.noted hwarm₁
  obtain ⟨hr1, hr2⟩ := X.roomAbove hcells hslots
  have XF := iv_rw.stand X₁ cA cI n.toNatClampNeg k.toNatClampNeg n.toNatClampNeg
  refine ⟨vm₁, cA, cI, hnameA, hcomp, XF, fun target hrest => ?_⟩
  have hl1 : ¬ n.toNatClampNeg > e.platform.arrayLengthLimit := by rw [Launch.admits_arrayLengthLimit X.admits]; omega
  have hh1 : ¬ n.toNatClampNeg * componentBytes (.array .int) > e.platform.maxHeapBytes := by
    rw [Launch.admits_maxHeapBytes X.admits]
    show ¬ n.toNatClampNeg * 4 > 536870912
    omega
  have hl2 : ¬ k.toNatClampNeg > e.platform.arrayLengthLimit := by rw [Launch.admits_arrayLengthLimit X.admits]; omega
  have hh2 : ¬ k.toNatClampNeg * componentBytes .int > e.platform.maxHeapBytes := by
    rw [Launch.admits_maxHeapBytes X.admits]
    show ¬ k.toNatClampNeg * 4 > 536870912
    omega
  jvm_step X.here [hexec, hdg]
  simp only [multianewarray.sem, wp_bind', W.resolveClassAt_links (State.method?_setTop g X.here.top) hg₁]
  rw [W.popN, if_neg (by decide)]
  refine ⟨g, State.topJava?_setTop' (s := T.setVm vm₁) g X.here.top, [.int n, .int k], rest, rfl, hstack, ?_⟩
  simp only [List.mapM_cons, List.mapM_nil, wp_bind', wp_pure']
  refine iv_make2 (k := kA₁) (kc := kC₁) (cI := cI) (cc := cc') hkA₁ hkindA₁ hkC₁ hkindC₁ hn hk hl1 hh1 hl2 hh2 (by show T.heap.size + 1 + _ ≤ _; omega) (by show T.slotsUsed + _ + _ ≤ _; omega) (fun d' acts' => ?_)
  have eS : ((T.setTop g).setVm vm₁).setTop { g with stack := rest } = (T.setVm vm₁).setTop { g with stack := rest } := by
    show ((T.setVm vm₁).setTop g).setTop _ = _
    rw [State.setTop_setTop]
  rw [eS, iv_rw.top]
  simp only [wp_bind', W.mark, W.pushRef, State.topJava?_setTop' _ XF.here.top, Option.some.injEq, exists_eq_left', State.setTop_setTop, State.heap_setTop]
  intro acts
  simp [jvm, XF.here.top]
  exact hrest
theorem iv_mna (X : iv_X p m c cc nL s args W0 own D cl tys base) (hB : iv_M iv_sh D cl tys base f G H0 H locs) (hty : iv_ty tys) (harr : Cond.arrayClass .int ∈ W0) {index : Nat} (hcl : Cond.classLink own index "[[I" ∈ W0) (hcells : cells + 7 ≤ R.cells) (hslots : slots + 396 ≤ R.slots) (hdg : decode cc pc = .ok (.multianewarray index 2, 4))
    (kk : ∀ (q : Nat) (G1 : iv_G) (H1 : Heap) (locs1 : List Loc), q = H.size → H1.size = q + 7 → (∀ x, x < q → H1[x]? = H[x]?) → G q = none → iv_gr q G G1 → (∃ (g : Nat → Int32) (r : Nat → Nat), G1 q = some (41, g, r)) → iv_M iv_sh D cl tys base f G1 H0 H1 locs1 → W p l e R s m args below meth c H1 locs1 (cells + 7) (slots + 396) Q (F0 m (pc + 4) ls (.ref q :: rest))) : W p l e R s m args below meth c H locs cells slots Q (F0 m pc ls (.int 65 :: .int 6 :: rest)) := by
  obtain ⟨⟨hexec, hb, hml, hown, hts⟩, hK, hN0⟩ := X
  obtain ⟨cI0, ht0⟩ := hty.1
  obtain ⟨cC0, ht2⟩ := hty.2.2
  have n6 : (6 : Int32).toNatClampNeg = 6 := by decide +kernel
  have n65 : (65 : Int32).toNatClampNeg = 65 := by decide +kernel
  intro T hT Y
  obtain ⟨vm₁, cA, cI, hA, hI, Y', st⟩ := iv_mnaS (own := own) (index := index) (n := 6) (k := 65) (rest := rest) (g := F0 m pc ls (.int 65 :: .int 6 :: rest)) Y hexec hown (hts _ hcl) hN0.2.2.2.2.2.2.2 (hts _ harr) rfl (by rw [hb]; exact hdg) rfl (by decide +kernel) (by decide +kernel) (by rw [n6]; omega) (by rw [n65]; omega) (by rw [n6]; omega) (by rw [n6, n65]; omega)
  rw [n6, n65] at Y' st
  have eA : cA = cC0 := Option.some.inj (hA.symm.trans (hK.2 2 _ ht2).2)
  have eI : cI = cI0 := Option.some.inj (hI.symm.trans (hK.2 0 _ ht0).2)
  rw [eA, eI] at Y' st
  obtain ⟨f1, f2, f3, f4⟩ := iv_rw.facts (T.setVm vm₁) cC0 cI0 6 65 6
  have hTH : (T.setVm vm₁).heap = H := hT
  generalize hH1 : (iv_rw (T.setVm vm₁) cC0 cI0 6 65 6).heap = H1 at f1 f2
  rw [hTH] at f1 f2
  have hold : ∀ x, x < H.size → H1[x]? = H[x]? := fun x hx => by
    rw [← hH1, ← hTH]
    exact iv_rw.old _ _ _ _ _ (by rw [hTH]; exact hx) 6
  have hrow : ∀ j, j < 6 → H1[H.size + 1 + j]? = some (arrV cI0 65 (fun _ => .int 0)) := fun j hj => by
    have h := iv_rw.row (T.setVm vm₁) cC0 cI0 6 65 6 j hj
    rw [hH1, hTH] at h
    exact h
  have hno : G H.size = none := hB.1.fresh (Nat.le_refl _)
  obtain ⟨G1, eG1⟩ : ∃ G1 : iv_G, G1 = fun x => if x = H.size then some (41, fun _ => 0, fun i => H.size + 1 + i) else if H.size < x ∧ x < H.size + 7 then some (27, fun _ => 0, fun _ => 0) else G x := ⟨_, rfl⟩
  have hgr : iv_gr H.size G G1 := fun x hx => by
    rw [eG1]
    show (if x = H.size then _ else _) = _
    rw [if_neg (by omega), if_neg (by omega)]
  have hGq : G1 H.size = some (41, fun _ => 0, fun i => H.size + 1 + i) := by
    rw [eG1]
    exact if_pos rfl
  have hGr : ∀ j, j < 6 → G1 (H.size + 1 + j) = some (27, fun _ => 0, fun _ => 0) := fun j hj => by
    rw [eG1]
    show (if H.size + 1 + j = H.size then _ else _) = _
    rw [if_neg (by omega), if_pos ⟨by omega, by omega⟩]
  have hbase : base ≤ H.size := Nat.le_trans hB.2.2.1 hB.sz
  have hI1 : iv_I iv_sh D cl tys base G1 H1 := by
    intro x kx hx
    by_cases e1 : x < H.size
    · rw [hgr x e1] at hx
      exact ⟨(hB.1 x _ hx).1, iv_C_mono (fun b kb hb9 => ⟨kb, hB.1.keep (Nat.le_refl _) hgr hb9, rfl⟩) (hold x e1) (hB.1 x _ hx).2⟩
    · by_cases e2 : x = H.size
      · rw [e2, hGq] at hx
        cases hx
        rw [e2]
        refine ⟨hbase, ?_⟩
        unfold iv_C
        rw [show iv_sh ((41, fun _ => 0, fun i => H.size + 1 + i) : iv_K).1 = .inr (.inr (2, 6, 27)) from rfl]
        refine ⟨cC0, _, ht2, rfl, ?_, fun i hi => ⟨_, hGr i hi, rfl⟩⟩
        rw [f2, vp_cell_q]
        unfold iv_oc
        exact congrArg some (arrV_cong (fun j hj => if_pos hj))
      · by_cases e3 : x < H.size + 7
        · have e4 : x = H.size + 1 + (x - (H.size + 1)) := by omega
          have h6 : x - (H.size + 1) < 6 := by omega
          rw [e4, hGr _ h6] at hx
          cases hx
          rw [e4]
          refine ⟨by omega, ?_⟩
          unfold iv_C
          rw [show iv_sh ((27, fun _ => 0, fun _ => 0) : iv_K).1 = .inr (.inl (65, iv_E (-2147483648) 2147483647 65)) from rfl]
          exact ⟨cI0, ht0, hrow _ h6, fun _ _ => iv_R.all _⟩
        · rw [eG1] at hx
          have hx : (if x = H.size then some (41, fun _ => 0, fun i => H.size + 1 + i) else if H.size < x ∧ x < H.size + 7 then some (27, fun _ => 0, fun _ => 0) else G x) = some kx := hx
          rw [if_neg e2, if_neg (by omega), hB.1.fresh (by omega)] at hx
          cases hx
  have hS1 : va_S (iv_A f) H0 H1 (locs ++ (List.range 6).map fun j => ⟨H.size, j⟩) := ⟨Nat.le_trans hB.2.1.1 (by omega), fun q g1 g2 => (hold q (Nat.lt_of_lt_of_le g1 hB.2.1.1)).trans (hB.2.1.2.1 q g1 g2), fun q hq => by
    rcases List.mem_append.mp hq with h | h
    · exact hB.2.1.2.2 q h
    · obtain ⟨j, -, hj⟩ := List.mem_map.mp h
      rw [← hj]
      exact hB.sz⟩
  have hTs : T.heap.size = H.size := by rw [hT]
  rw [hTs] at Y' st
  have Y' : Stand p l e R s m args below meth c (iv_rw (T.setVm vm₁) cC0 cI0 6 65 6) (locs ++ (List.range 6).map fun j => ⟨H.size, j⟩) (cells + 7) (slots + 396) := Y'
  obtain ⟨t, a1, b1⟩ := kk H.size G1 H1 _ rfl (by omega) hold hno hgr ⟨_, _, hGq⟩ ⟨hI1, hS1, hB.2.2⟩ _ hH1 Y'
  exact ⟨t, st t a1, b1⟩
end IVMS
