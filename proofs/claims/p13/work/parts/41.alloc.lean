theorem iv_E.zr {lo hi : Int} {n : Nat} (h : lo ≤ 0 ∧ 0 ≤ hi) : iv_E lo hi n (fun _ => 0) := fun _ _ => ⟨by rw [Int32.toInt_zero]; exact h.1, by rw [Int32.toInt_zero]; exact h.2⟩
theorem iv_wb.zr (i : Nat) : iv_R (iv_wb i).1 (iv_wb i).2 0 := by
  have z : (0 : Int32).toInt = 0 := Int32.toInt_zero
  unfold iv_wb iv_R
  rw [z]
  repeat' split
  all_goals exact ⟨by decide, by decide⟩
theorem iv_lw.zr {k : Nat} : iv_lw (fun _ => 0) k := fun i hi => by
  have hi : (i : Int) < (0 : Int32).toInt := hi
  rw [Int32.toInt_zero] at hi
  omega
theorem iv_wP.zr : iv_wP (fun _ => 0) := ⟨fun i _ => iv_wb.zr i, iv_lw.zr, iv_lw.zr⟩
theorem iv_kP.zr : iv_kP (fun _ => 0) := fun i _ => iv_wb.zr _
theorem iv_gr.kp {sh : Nat → iv_Sh} {D : va_G} {cl : List vw_C} {tys : List (ClassId × FieldType)} {base b : Nat} {G G1 : iv_G} {H : Heap} (h : iv_gr b G G1) (hI : iv_I sh D cl tys base G H) (hz : H.size ≤ b + 1) (hb : G b = none) {x : Nat} {k : iv_K} (t : G x = some k) : G1 x = some k := by
  have h1 := hI.lt t
  have h2 : x ≠ b := fun e => by rw [e, hb] at t; cases t
  exact (h x (by omega)).trans t
theorem arrV_cong {cA : ClassId} {N : Nat} {f g : Nat → Value} (h : ∀ j, j < N → f j = g j) : arrV cA N f = arrV cA N g := by
  unfold arrV
  congr 1
  apply congrArg
  funext j
  exact h j.val j.isLt
section IVU
variable {p : Program} {l : Launch} {e : Env} {R : Room} {s : State} {m : MethodId} {args : Array Value} {below : List Frame} {meth : Method} {c : Code} {H : Heap} {locs : List Loc} {cells slots : Nat} {Q : State → Prop}
variable {cc : ByteArray} {nL pc : Nat} {ls : Array Slot} {rest : List Value} {D : va_G} {cl : List vw_C} {tys : List (ClassId × FieldType)} {base f : Nat} {G : iv_G} {H0 : Heap} {a b : Nat} {W0 : List Cond} {own : String} {sh : Nat → iv_Sh}
theorem iv_getU (X : iv_X p m c cc nL s args W0 own D cl tys base) {ci N index : Nat} {C : String} {T : u_T} {ty : Nat → FieldType} (F : iv_FT cl W0 ci C T N ty) {V : Nat → Value} (hO : t_OB a (D.1 ci) N (D.2 ci) H V) (j : Nat) (hj : j < N) {v : Value} (hv : V j = v) (hlink : Cond.fieldLink own index (T j).1 (T j).2.1 (T j).2.2.1 ∈ W0) (hdg : decode cc pc = .ok (.getfield index, 3))
    (kk : W p l e R s m args below meth c H locs cells slots Q (F0 m (pc + 3) ls (v :: rest))) : W p l e R s m args below meth c H locs cells slots Q (F0 m pc ls (.ref a :: rest)) :=
  iv_getV X F hO j hj hlink hdg (by rw [hv]; exact kk)
/-- a new array of references to objects, all null -/
theorem iv_newq (X : iv_X p m c cc nL s args W0 own D cl tys base) (hB : iv_M sh D cl tys base f G H0 H locs) {index : Nat} {cB : ClassId} (ht : tys[1]? = some (cB, .object "UnbornBells$Bell")) (hcl : Cond.classLink own index "UnbornBells$Bell" ∈ W0) {n : Int32} {N : Nat} (hn : ¬ n < 0) (hN : n.toNatClampNeg = N) (hN2 : N ≤ 100000) (hcells : cells + 1 ≤ R.cells) (hslots : slots + N ≤ R.slots) (hdg : decode cc pc = .ok (.anewarray index, 3))
    (kk : ∀ (q : Nat) (H1 : Heap), q = H.size → H1.size = q + 1 → (∀ x, x < q → H1[x]? = H[x]?) → G q = none → H1[q]? = some (vp_cell cB (N, .inr (.inr (.inr (.inr (fun _ => none)))))) → iv_M sh D cl tys base f G H0 H1 locs → W p l e R s m args below meth c H1 locs (cells + 1) (slots + N) Q (F0 m (pc + 3) ls (.ref q :: rest))) : W p l e R s m args below meth c H locs cells slots Q (F0 m pc ls (.int n :: rest)) := by
  obtain ⟨⟨hexec, hb, hml, hown, hts⟩, hK, hN0⟩ := X
  subst hN
  refine W.anew hexec hb hown (hts _ hcl) (va_AO.use hN0.2.2.2.2.2.2.1) rfl hdg rfl hn (by omega) hcells hslots fun cA kA comp f1 f2 f3 f4 => ?_
  obtain ⟨kA', comp', g1, g2, g3, g4⟩ := (hK.2 1 _ ht).2
  have hcA : cA = cB := Option.some.inj (f1.symm.trans g4)
  subst hcA
  generalize hH1 : H.push ({ cls := cA, slots := Array.replicate n.toNatClampNeg .null, vm := .none } : Cell) = H1
  have z1 : H1.size = H.size + 1 := by rw [← hH1, Array.size_push]
  have e1 : H1[H.size]? = some (arrV cA n.toNatClampNeg (fun _ => .null)) := by rw [← hH1, Array.getElem?_push_size, ← arrV_new]
  have o1 : ∀ q : Nat, q < H.size → H1[q]? = H[q]? := fun q hq => by rw [← hH1, Array.getElem?_push, if_neg (Nat.ne_of_lt hq)]
  exact kk H.size H1 rfl z1 o1 (hB.1.fresh (Nat.le_refl _)) (by rw [vp_cell_q]; exact e1) ⟨hB.1.same (fun x k hx => o1 x (hB.1.lt hx)), hB.2.1.pushed (by omega) o1, hB.2.2⟩
/-- an object put in an array that isn't typed yet -/
theorem iv_astU (X : iv_X p m c cc nL s args W0 own D cl tys base) (hB : iv_M sh D cl tys base f G H0 H locs) {cB : ClassId} (ht : tys[1]? = some (cB, .object "UnbornBells$Bell")) {n : Nat} {fr : Nat → Option Nat} (hA : H[a]? = some (vp_cell cB (n, .inr (.inr (.inr (.inr fr)))))) (hno : G a = none) (hf : f ≤ a) {cd ci : Nat} {r : vw_C} {g : Nat → Int32} {rr : Nat → Nat} {ts : iv_K → Nat → iv_T} (hc : cl[ci]? = some r) (hrC : r.1 = "UnbornBells$Bell") (t : G b = some (cd, g, rr)) (hsh : sh cd = .inl (ci, ts)) {i : Int32} (hin : vp_in i n) (hdg : decode cc pc = .ok (.aastore, 1))
    (kk : ∀ (H1 : Heap) (locs1 : List Loc), H1[a]? = some (vp_cell cB (n, .inr (.inr (.inr (.inr (va_up fr i.toNatClampNeg (some b))))))) → H1.size = H.size → (∀ q : Nat, q ≠ a → H1[q]? = H[q]?) → iv_M sh D cl tys base f G H0 H1 locs1 → W p l e R s m args below meth c H1 locs1 cells slots Q (F0 m (pc + 1) ls rest)) : W p l e R s m args below meth c H locs cells slots Q (F0 m pc ls (.ref b :: .int i :: .ref a :: rest)) := by
  obtain ⟨⟨hexec, hb, hml, hown, hts⟩, hK, hN0⟩ := X
  have hlt : i.toNatClampNeg < n := iv_inN hin
  have h0 : ¬ i < 0 := fun q => hin (Or.inl q)
  obtain ⟨r', hr', ⟨cellV, g1, g2, g3, -⟩, -⟩ := (hB.1 b _ t).2.obj hsh
  have hr9 : r' = r := Option.some.inj (hr'.symm.trans hc)
  subst hr9
  have hcls := (hK.1 ci r' hc).2
  obtain ⟨kA, comp, k1, k2, k3, -⟩ := (hK.2 1 _ ht).2
  have hcomp : comp = D.1 ci := Option.some.inj (k3.symm.trans (by rw [← hrC]; exact hcls.1))
  subst hcomp
  have hcls9 := hcls
  obtain ⟨-, kC, hkC, -⟩ := hcls9
  refine W.aast hexec hb hA (fun q h => by cases h) (fun h => by cases h) k1 k2 rfl hkC ⟨h0, by show _ < (arrV _ _ _).slots.size; rw [arrV_size]; exact hlt⟩ g1 (fun q h => by rw [g3] at h; cases h) (by rw [g2]; exact hkC) (by rw [g2]; exact va_assign hcls) rfl rfl hdg fun H1 e1 z oq => ?_
  refine kk H1 _ ?_ z oq (hB.putO hno hf z oq)
  rw [e1, vp_cell_q, vp_cell_q, arrV_store]
  congr 2
  funext q
  by_cases hq : q = i.toNatClampNeg
  · rw [hq]
    simp [updV, va_up, va_rf]
  · simp [updV, va_up, hq]
/-- a number put in a typed array that was made here -/
theorem iv_astM (X : iv_X p m c cc nL s args W0 own D cl tys base) (hB : iv_M sh D cl tys base f G H0 H locs) {cd n : Nat} {g : Nat → Int32} {r : Nat → Nat} (ha : G a = some (cd, g, r)) (hf : f ≤ a) {P : (Nat → Int32) → Prop} (hsh : sh cd = .inr (.inl (n, P))) {i x : Int32} (hin : vp_in i n) (hx : P g → P (upd g i.toNatClampNeg x)) (hdg : decode cc pc = .ok (.iastore, 1))
    (kk : ∀ (H1 : Heap) (locs1 : List Loc), H1.size = H.size → (∀ q : Nat, q ≠ a → H1[q]? = H[q]?) → iv_M sh D cl tys base f (iv_up G a (cd, upd g i.toNatClampNeg x, r)) H0 H1 locs1 → W p l e R s m args below meth c H1 locs1 cells slots Q (F0 m (pc + 1) ls rest)) : W p l e R s m args below meth c H locs cells slots Q (F0 m pc ls (.int x :: .int i :: .ref a :: rest)) := by
  obtain ⟨⟨hexec, hb, hml, hown, hts⟩, hK, hN⟩ := X
  obtain ⟨cA, h1, h2, h3⟩ := (hB.1 a _ ha).2.arr hsh
  refine W.iast hexec hb h2 ((hK.2 0 _ h1).1 n (fun j => .int (g j))) (fun q => by cases q) (by show ¬ (i < 0 ∨ (arrV _ _ _).slots.size ≤ _); rw [arrV_size]; exact hin) rfl rfl hdg fun H1 e' z oq => ?_
  refine kk H1 _ z oq ⟨fun b kb hb => ?_, hB.2.1.put z oq hf, hB.2.2⟩
  by_cases e9 : b = a
  · rw [e9, iv_up_eq] at hb
    cases hb
    rw [e9]
    refine ⟨(hB.1 a _ ha).1, ?_⟩
    unfold iv_C
    show match sh cd with | .inl _ => _ | .inr (.inl _) => _ | .inr (.inr _) => _
    rw [hsh]
    refine ⟨cA, h1, ?_, hx h3⟩
    rw [e', vp_cell_i, vp_cell_i, arrV_store]
    congr 2
    funext q
    by_cases hq : q = i.toNatClampNeg
    · rw [hq]
      simp [updV, upd]
    · simp [updV, upd, hq]
  · rw [iv_up_ne e9] at hb
    exact ⟨(hB.1 b _ hb).1, iv_C_mono (fun b' kb' h' => iv_up_pres (k := (cd, upd g i.toNatClampNeg x, r)) ha rfl h') (oq b e9) (hB.1 b _ hb).2⟩
end IVU
def iv_cz (g : Nat → Int32) (L i : Nat) : Int32 := if i < L then g i else 0
set_option maxRecDepth 20000 in
theorem k_arr_int : Cond.arrayClass .int ∈ iv_W0 := k_c1 (List.mem_of_getElem? (i := 58) rfl) rfl
set_option maxRecDepth 20000 in
theorem k_oim : Cond.instanceMethod objectInit ∈ iv_W0 := k_c1 (List.mem_of_getElem? (i := 29) rfl) rfl
set_option maxRecDepth 20000 in
theorem k_oic : Cond.code objectInit ⟨#[0xb1]⟩ 1 none ∈ iv_W0 := k_c1 (List.mem_of_getElem? (i := 30) rfl) rfl
set_option maxRecDepth 20000 in
theorem k_ii_L : Cond.initialized RL ∈ iv_W0 := k_c1 (List.mem_of_getElem? (i := 0) rfl) rfl
set_option maxRecDepth 20000 in
theorem k_ii_X11 : Cond.initialized RX11 ∈ iv_W0 := k_c1 (List.mem_of_getElem? (i := 1) rfl) rfl
set_option maxRecDepth 20000 in
theorem k_ii_X5 : Cond.initialized RX5 ∈ iv_W0 := k_c1 (List.mem_of_getElem? (i := 2) rfl) rfl
set_option maxRecDepth 20000 in
theorem k_ii_X8 : Cond.initialized RX8 ∈ iv_W0 := k_c1 (List.mem_of_getElem? (i := 3) rfl) rfl
set_option maxRecDepth 20000 in
theorem k_ii_X3 : Cond.initialized RX3 ∈ iv_W0 := k_c1 (List.mem_of_getElem? (i := 4) rfl) rfl
set_option maxRecDepth 20000 in
theorem k_ii_J7 : Cond.initialized RJ7 ∈ iv_W0 := k_c1 (List.mem_of_getElem? (i := 5) rfl) rfl
set_option maxRecDepth 20000 in
theorem k_ii_J9 : Cond.initialized RJ9 ∈ iv_W0 := k_c1 (List.mem_of_getElem? (i := 6) rfl) rfl
set_option maxRecDepth 20000 in
theorem k_ii_J10 : Cond.initialized RJ10 ∈ iv_W0 := k_c1 (List.mem_of_getElem? (i := 7) rfl) rfl
set_option maxRecDepth 20000 in
theorem k_ii_X1 : Cond.initialized RX1 ∈ iv_W0 := k_c1 (List.mem_of_getElem? (i := 8) rfl) rfl
set_option maxRecDepth 20000 in
theorem k_ii_X6 : Cond.initialized RX6 ∈ iv_W0 := k_c1 (List.mem_of_getElem? (i := 9) rfl) rfl
set_option maxRecDepth 20000 in
theorem k_ii_X7 : Cond.initialized RX7 ∈ iv_W0 := k_c1 (List.mem_of_getElem? (i := 10) rfl) rfl
set_option maxRecDepth 20000 in
theorem k_ii_X10 : Cond.initialized RX10 ∈ iv_W0 := k_c1 (List.mem_of_getElem? (i := 11) rfl) rfl
set_option maxRecDepth 20000 in
theorem k_ii_X2 : Cond.initialized RX2 ∈ iv_W0 := k_c1 (List.mem_of_getElem? (i := 12) rfl) rfl
set_option maxRecDepth 20000 in
theorem k_ii_X0 : Cond.initialized RX0 ∈ iv_W0 := k_c1 (List.mem_of_getElem? (i := 13) rfl) rfl
set_option maxRecDepth 20000 in
theorem k_ii_X9 : Cond.initialized RX9 ∈ iv_W0 := k_c1 (List.mem_of_getElem? (i := 14) rfl) rfl
set_option maxRecDepth 20000 in
theorem k_ii_X4 : Cond.initialized RX4 ∈ iv_W0 := k_c1 (List.mem_of_getElem? (i := 15) rfl) rfl
set_option maxRecDepth 20000 in
theorem k_ii_X12 : Cond.initialized RX12 ∈ iv_W0 := k_c1 (List.mem_of_getElem? (i := 16) rfl) rfl
set_option maxRecDepth 20000 in
theorem k_ii_J6 : Cond.initialized RJ6 ∈ iv_W0 := k_c1 (List.mem_of_getElem? (i := 17) rfl) rfl
set_option maxRecDepth 20000 in
theorem k_ii_J0 : Cond.initialized RJ0 ∈ iv_W0 := k_c1 (List.mem_of_getElem? (i := 18) rfl) rfl
set_option maxRecDepth 20000 in
theorem k_ii_J1 : Cond.initialized RJ1 ∈ iv_W0 := k_c1 (List.mem_of_getElem? (i := 19) rfl) rfl
set_option maxRecDepth 20000 in
theorem k_ii_J3 : Cond.initialized RJ3 ∈ iv_W0 := k_c1 (List.mem_of_getElem? (i := 20) rfl) rfl
set_option maxRecDepth 20000 in
theorem k_ii_J2 : Cond.initialized RJ2 ∈ iv_W0 := k_c1 (List.mem_of_getElem? (i := 21) rfl) rfl
set_option maxRecDepth 20000 in
theorem k_ii_J11 : Cond.initialized RJ11 ∈ iv_W0 := k_c1 (List.mem_of_getElem? (i := 22) rfl) rfl
set_option maxRecDepth 20000 in
theorem k_cl_L_7 : Cond.classLink RL 7 "UnbornBells" ∈ iv_W0 := k_c1 (List.mem_of_getElem? (i := 23) rfl) rfl
set_option maxRecDepth 20000 in
theorem k_it_X11 : Cond.instantiable RX11 12 ∈ iv_W0 := k_c1 (List.mem_of_getElem? (i := 24) rfl) rfl
set_option maxRecDepth 20000 in
theorem k_oi_X11 : Cond.methodLink RX11 3 objectInit ∈ iv_W0 := k_c1 (List.mem_of_getElem? (i := 28) rfl) rfl
set_option maxRecDepth 20000 in
theorem k_cl_X11_9 : Cond.classLink RX11 9 "UnbornBells$Parish" ∈ iv_W0 := k_c1 (List.mem_of_getElem? (i := 31) rfl) rfl
set_option maxRecDepth 20000 in
theorem k_it_X5 : Cond.instantiable RX5 15 ∈ iv_W0 := k_c1 (List.mem_of_getElem? (i := 32) rfl) rfl
set_option maxRecDepth 20000 in
theorem k_oi_X5 : Cond.methodLink RX5 3 objectInit ∈ iv_W0 := k_c1 (List.mem_of_getElem? (i := 36) rfl) rfl
set_option maxRecDepth 20000 in
theorem k_cl_X5_9 : Cond.classLink RX5 9 "UnbornBells$Bell" ∈ iv_W0 := k_c1 (List.mem_of_getElem? (i := 37) rfl) rfl
set_option maxRecDepth 20000 in
theorem k_cl_X5_25 : Cond.classLink RX5 25 "UnbornBells$Table" ∈ iv_W0 := k_c1 (List.mem_of_getElem? (i := 39) rfl) rfl
set_option maxRecDepth 20000 in
theorem k_it_X8 : Cond.instantiable RX8 3 ∈ iv_W0 := k_c1 (List.mem_of_getElem? (i := 40) rfl) rfl
set_option maxRecDepth 20000 in
theorem k_oi_X8 : Cond.methodLink RX8 3 objectInit ∈ iv_W0 := k_c1 (List.mem_of_getElem? (i := 44) rfl) rfl
set_option maxRecDepth 20000 in
theorem k_cl_X3_9 : Cond.classLink RX3 9 "UnbornBells$Law" ∈ iv_W0 := k_c1 (List.mem_of_getElem? (i := 62) rfl) rfl
set_option maxRecDepth 20000 in
theorem k_it_X3 : Cond.instantiable RX3 7 ∈ iv_W0 := k_c1 (List.mem_of_getElem? (i := 63) rfl) rfl
set_option maxRecDepth 20000 in
theorem k_oi_X3 : Cond.methodLink RX3 3 objectInit ∈ iv_W0 := k_c1 (List.mem_of_getElem? (i := 67) rfl) rfl
set_option maxRecDepth 20000 in
theorem k_cl_J7_317 : Cond.classLink RJ7 317 "[I" ∈ iv_W0 := k_c1 (List.mem_of_getElem? (i := 77) rfl) rfl
set_option maxRecDepth 20000 in
theorem k_ml_J7_150 : Cond.methodLink RJ7 150 arraycopyName ∈ iv_W0 := k_c1 (List.mem_of_getElem? (i := 81) rfl) rfl
set_option maxRecDepth 20000 in
theorem k_it_X1 : Cond.instantiable RX1 8 ∈ iv_W0 := k_c1 (List.mem_of_getElem? (i := 107) rfl) rfl
set_option maxRecDepth 20000 in
theorem k_oi_X1 : Cond.methodLink RX1 3 objectInit ∈ iv_W0 := k_c1 (List.mem_of_getElem? (i := 111) rfl) rfl
set_option maxRecDepth 20000 in
theorem k_cl_X11_19 : Cond.classLink RX11 19 "UnbornBells$Past" ∈ iv_W0 := k_c2 (List.mem_of_getElem? (i := 15) rfl) rfl
set_option maxRecDepth 20000 in
theorem k_it_X6 : Cond.instantiable RX6 3 ∈ iv_W0 := k_c2 (List.mem_of_getElem? (i := 16) rfl) rfl
set_option maxRecDepth 20000 in
theorem k_oi_X6 : Cond.methodLink RX6 5 objectInit ∈ iv_W0 := k_c2 (List.mem_of_getElem? (i := 20) rfl) rfl
set_option maxRecDepth 20000 in
theorem k_cl_X6_11 : Cond.classLink RX6 11 "[[I" ∈ iv_W0 := k_c2 (List.mem_of_getElem? (i := 21) rfl) rfl
set_option maxRecDepth 20000 in
theorem k_cl_X11_30 : Cond.classLink RX11 30 "UnbornBells$Reader" ∈ iv_W0 := k_c2 (List.mem_of_getElem? (i := 34) rfl) rfl
set_option maxRecDepth 20000 in
theorem k_it_X7 : Cond.instantiable RX7 15 ∈ iv_W0 := k_c2 (List.mem_of_getElem? (i := 35) rfl) rfl
set_option maxRecDepth 20000 in
theorem k_oi_X7 : Cond.methodLink RX7 3 objectInit ∈ iv_W0 := k_c2 (List.mem_of_getElem? (i := 39) rfl) rfl
set_option maxRecDepth 20000 in
theorem k_cl_X7_9 : Cond.classLink RX7 9 "UnbornBells$Tokens" ∈ iv_W0 := k_c2 (List.mem_of_getElem? (i := 40) rfl) rfl
set_option maxRecDepth 20000 in
theorem k_it_X10 : Cond.instantiable RX10 3 ∈ iv_W0 := k_c2 (List.mem_of_getElem? (i := 41) rfl) rfl
set_option maxRecDepth 20000 in
theorem k_oi_X10 : Cond.methodLink RX10 3 objectInit ∈ iv_W0 := k_c2 (List.mem_of_getElem? (i := 45) rfl) rfl
set_option maxRecDepth 20000 in
theorem k_cl_X11_37 : Cond.classLink RX11 37 "UnbornBells$Ear" ∈ iv_W0 := k_c2 (List.mem_of_getElem? (i := 114) rfl) rfl
set_option maxRecDepth 20000 in
theorem k_it_X2 : Cond.instantiable RX2 2 ∈ iv_W0 := k_c2 (List.mem_of_getElem? (i := 115) rfl) rfl
set_option maxRecDepth 20000 in
theorem k_oi_X2 : Cond.methodLink RX2 3 objectInit ∈ iv_W0 := k_c2 (List.mem_of_getElem? (i := 119) rfl) rfl
set_option maxRecDepth 20000 in
theorem k_cl_X11_46 : Cond.classLink RX11 46 "UnbornBells$Almanac" ∈ iv_W0 := k_c2 (List.mem_of_getElem? (i := 127) rfl) rfl
set_option maxRecDepth 20000 in
theorem k_it_X0 : Cond.instantiable RX0 2 ∈ iv_W0 := k_c2 (List.mem_of_getElem? (i := 128) rfl) rfl
set_option maxRecDepth 20000 in
theorem k_oi_X0 : Cond.methodLink RX0 3 objectInit ∈ iv_W0 := k_c2 (List.mem_of_getElem? (i := 132) rfl) rfl
set_option maxRecDepth 20000 in
theorem k_cl_X11_55 : Cond.classLink RX11 55 "UnbornBells$Thought" ∈ iv_W0 := k_c2 (List.mem_of_getElem? (i := 140) rfl) rfl
set_option maxRecDepth 20000 in
theorem k_it_X9 : Cond.instantiable RX9 2 ∈ iv_W0 := k_c2 (List.mem_of_getElem? (i := 141) rfl) rfl
set_option maxRecDepth 20000 in
theorem k_oi_X9 : Cond.methodLink RX9 3 objectInit ∈ iv_W0 := k_c2 (List.mem_of_getElem? (i := 145) rfl) rfl
set_option maxRecDepth 20000 in
theorem k_cl_X11_62 : Cond.classLink RX11 62 "UnbornBells$Orders" ∈ iv_W0 := k_c2 (List.mem_of_getElem? (i := 153) rfl) rfl
set_option maxRecDepth 20000 in
theorem k_it_X4 : Cond.instantiable RX4 5 ∈ iv_W0 := k_c2 (List.mem_of_getElem? (i := 154) rfl) rfl
set_option maxRecDepth 20000 in
theorem k_oi_X4 : Cond.methodLink RX4 3 objectInit ∈ iv_W0 := k_c2 (List.mem_of_getElem? (i := 158) rfl) rfl
set_option maxRecDepth 20000 in
theorem k_ml_X11_202 : Cond.methodLink RX11 202 arraycopyName ∈ iv_W0 := k_c4 (List.mem_of_getElem? (i := 148) rfl) rfl
set_option maxRecDepth 20000 in
theorem k_cl_X11_211 : Cond.classLink RX11 211 "UnbornBells$Law" ∈ iv_W0 := k_c4 (List.mem_of_getElem? (i := 153) rfl) rfl
set_option maxRecDepth 20000 in
theorem k_ml_X5_64 : Cond.methodLink RX5 64 arraycopyName ∈ iv_W0 := k_c5 (List.mem_of_getElem? (i := 232) rfl) rfl
set_option maxRecDepth 20000 in
theorem k_ml_X8_44 : Cond.methodLink RX8 44 arraycopyName ∈ iv_W0 := k_c5 (List.mem_of_getElem? (i := 238) rfl) rfl
set_option maxRecDepth 20000 in
theorem k_cl_L_10 : Cond.classLink RL 10 "UnbornBellsModel" ∈ iv_W0 := k_c6 (List.mem_of_getElem? (i := 3) rfl) rfl
set_option maxRecDepth 20000 in
theorem k_it_X12 : Cond.instantiable RX12 32 ∈ iv_W0 := k_c6 (List.mem_of_getElem? (i := 4) rfl) rfl
set_option maxRecDepth 20000 in
theorem k_oi_X12 : Cond.methodLink RX12 1 objectInit ∈ iv_W0 := k_c6 (List.mem_of_getElem? (i := 8) rfl) rfl
set_option maxRecDepth 20000 in
theorem k_cpn : Cond.native arraycopyName ∈ iv_W0 := k_c1 (List.mem_of_getElem? (i := 83) rfl) rfl
set_option maxRecDepth 20000 in
theorem k_cps : Cond.static arraycopyName ∈ iv_W0 := k_c1 (List.mem_of_getElem? (i := 82) rfl) rfl
set_option maxRecDepth 20000 in
theorem k_ini_System : Cond.initialized "java/lang/System" ∈ iv_W0 := k_c1 (List.mem_of_getElem? (i := 7) rfl) rfl
set_option maxRecDepth 20000 in
theorem k_ml_J7_316 : Cond.methodLink RJ7 316 ⟨"[I", "clone", "()Ljava/lang/Object;"⟩ ∈ iv_W0 := k_c1 (List.mem_of_getElem? (i := 71) rfl) rfl
set_option maxRecDepth 20000 in
theorem k_same_clone : Cond.sameMethod "[I" "java/lang/Object" "clone" "()Ljava/lang/Object;" ∈ iv_W0 := k_c1 (List.mem_of_getElem? (i := 72) rfl) rfl
set_option maxRecDepth 20000 in
theorem k_cln : Cond.native ⟨"java/lang/Object", "clone", "()Ljava/lang/Object;"⟩ ∈ iv_W0 := k_c1 (List.mem_of_getElem? (i := 73) rfl) rfl
set_option maxRecDepth 20000 in
theorem k_cli : Cond.instanceMethod ⟨"java/lang/Object", "clone", "()Ljava/lang/Object;"⟩ ∈ iv_W0 := k_c1 (List.mem_of_getElem? (i := 74) rfl) rfl
set_option maxRecDepth 20000 in
theorem k_clsel : Cond.selects "[I" ⟨"[I", "clone", "()Ljava/lang/Object;"⟩ ⟨"java/lang/Object", "clone", "()Ljava/lang/Object;"⟩ ∈ iv_W0 := k_c1 (List.mem_of_getElem? (i := 75) rfl) rfl
theorem dJ7_copyOf_59c91_0 : decode cJ7_copyOf_59c91 0 = .ok (.iload_n 1, 1) := by decide +kernel
theorem dJ7_copyOf_59c91_1 : decode cJ7_copyOf_59c91 1 = .ok (.aload_n 0, 1) := by decide +kernel
theorem dJ7_copyOf_59c91_2 : decode cJ7_copyOf_59c91 2 = .ok (.arraylength, 1) := by decide +kernel
theorem dJ7_copyOf_59c91_3 : decode cJ7_copyOf_59c91 3 = .ok (.if_icmp .ne 11, 3) := by decide +kernel
theorem dJ7_copyOf_59c91_6 : decode cJ7_copyOf_59c91 6 = .ok (.aload_n 0, 1) := by decide +kernel
theorem dJ7_copyOf_59c91_7 : decode cJ7_copyOf_59c91 7 = .ok (.invokevirtual 316, 3) := by decide +kernel
theorem dJ7_copyOf_59c91_10 : decode cJ7_copyOf_59c91 10 = .ok (.checkcast 317, 3) := by decide +kernel
theorem dJ7_copyOf_59c91_13 : decode cJ7_copyOf_59c91 13 = .ok (.areturn, 1) := by decide +kernel
theorem dJ7_copyOf_59c91_14 : decode cJ7_copyOf_59c91 14 = .ok (.iload_n 1, 1) := by decide +kernel
theorem dJ7_copyOf_59c91_15 : decode cJ7_copyOf_59c91 15 = .ok (.newarray .int, 2) := by decide +kernel
theorem dJ7_copyOf_59c91_17 : decode cJ7_copyOf_59c91 17 = .ok (.astore_n 2, 1) := by decide +kernel
theorem dJ7_copyOf_59c91_18 : decode cJ7_copyOf_59c91 18 = .ok (.aload_n 0, 1) := by decide +kernel
theorem dJ7_copyOf_59c91_19 : decode cJ7_copyOf_59c91 19 = .ok (.iconst 0, 1) := by decide +kernel
theorem dJ7_copyOf_59c91_20 : decode cJ7_copyOf_59c91 20 = .ok (.aload_n 2, 1) := by decide +kernel
theorem dJ7_copyOf_59c91_21 : decode cJ7_copyOf_59c91 21 = .ok (.iconst 0, 1) := by decide +kernel
theorem dJ7_copyOf_59c91_22 : decode cJ7_copyOf_59c91 22 = .ok (.aload_n 0, 1) := by decide +kernel
theorem dJ7_copyOf_59c91_23 : decode cJ7_copyOf_59c91 23 = .ok (.arraylength, 1) := by decide +kernel
theorem dJ7_copyOf_59c91_24 : decode cJ7_copyOf_59c91 24 = .ok (.iload_n 1, 1) := by decide +kernel
theorem dJ7_copyOf_59c91_25 : decode cJ7_copyOf_59c91 25 = .ok (.invokestatic 304, 3) := by decide +kernel
theorem dJ7_copyOf_59c91_28 : decode cJ7_copyOf_59c91 28 = .ok (.invokestatic 150, 3) := by decide +kernel
theorem dJ7_copyOf_59c91_31 : decode cJ7_copyOf_59c91 31 = .ok (.aload_n 2, 1) := by decide +kernel
theorem dJ7_copyOf_59c91_32 : decode cJ7_copyOf_59c91 32 = .ok (.areturn, 1) := by decide +kernel
theorem iv_tI {L : Nat} (h : L ≤ 2000) : (L.toInt32).toInt = (L : Int) := by
  rw [show L.toInt32 = Int32.ofInt (L : Int) from rfl, Int32.toInt_ofInt]
  show Int.bmod (L : Int) 4294967296 = (L : Int)
  exact Int.bmod_eq_of_le (by omega) (by omega)
set_option maxHeartbeats 4000000 in
set_option maxRecDepth 100000 in
theorem c_J7_copyOf (l : Launch) (D : va_G) (tys : List (ClassId × FieldType)) (base : Nat) (G : iv_G) (hty : iv_ty tys) (sz : Nat) (hbs : base ≤ sz) (h1 : Nat) (g_h1 : Nat → Int32) (r_h1 : Nat → Nat) (cd L : Nat) (P : (Nat → Int32) → Prop) (a_h1 : G h1 = some (cd, g_h1, r_h1)) (hs1 : iv_sh cd = .inr (.inl (L, P))) (hL : L ≤ 2000) (x_1 : Int32) (N : Nat) (hxN : x_1.toInt = (N : Int)) (hN : N ≤ 2000) (cd2 : Nat) (P2 : (Nat → Int32) → Prop) (hs2 : iv_sh cd2 = .inr (.inl (N, P2))) (hP2 : ∀ F : Nat → Int32, (∀ i, i < N → F i = iv_cz g_h1 L i) → P2 F) : Met l yJ7_copyOf_59c91 (Cond.code yJ7_copyOf_59c91 cJ7_copyOf_59c91 3 (some (.array .int)) :: iv_W0) ({ frames := 1, cells := 1, slots := N, locals := 60 }) (iv_PcM iv_sh D classes tys base G sz (fun _ => True) [.ref h1, .int x_1]) (iv_QrM iv_sh D classes tys base sz (fun G' q => sz ≤ q ∧ iv_gr sz G G' ∧ ∃ (F : Nat → Int32) (r : Nat → Nat), G' q = some (cd2, F, r) ∧ ∀ i, i < N → F i = iv_cz g_h1 L i)) 1 N (iv_A sz) := by
  refine iv_headM hbs (Nat.le_refl _) (by decide) (Nat.le_of_ble_eq_true rfl) ?_
  intro p e s m args below meth c ls X hr hlocks hname hz hO hB hl
  have hx := X.1.1
  have hb := X.1.2.1
  obtain ⟨cA, ht⟩ := hty.1
  obtain ⟨cA1, ht1, hcell, hPg⟩ := (hB.1 h1 _ a_h1).2.arr hs1
  have hcA : cA1 = cA := by
    have q := ht1.symm.trans ht
    exact congrArg Prod.fst (Option.some.inj q)
  rw [hcA] at hcell
  have hl1 : h1 < s.heap.size := (Array.getElem?_eq_some_iff.mp hcell).1
  have hl : lv_has ls 3 [(0, .ref h1), (1, .int x_1)] := hl
  refine lv_iload_n hx hb dJ7_copyOf_59c91_0 rfl (lv_at hl 1 rfl) ?_
  refine lv_aload_n hx hb dJ7_copyOf_59c91_1 rfl (lv_at hl 0 rfl) ?_
  refine iv_alen X hB.B a_h1 hs1 rfl dJ7_copyOf_59c91_2 ?_
  refine lv_icmp_ne (tgt := 14) hx hb dJ7_copyOf_59c91_3 (by decide) (fun c1 => ?_) (fun c1 => ?_)
  · have hne : ¬ N = L := fun e9 => c1 (Int32.toInt_inj.mp (by rw [hxN, iv_tI hL, e9]))
    refine lv_iload_n hx hb dJ7_copyOf_59c91_14 rfl (lv_at hl 1 rfl) ?_
    have hneg : ¬ x_1 < 0 := fun q => by
      have q1 := Int32.lt_iff_toInt_lt.mp q
      rw [Int32.toInt_zero] at q1
      omega
    have hnat : x_1.toNatClampNeg = N := by
      show x_1.toInt.toNat = N
      omega
    refine va_newaK (atype := .int) hx hb (X.1.2.2.2.2 _ k_arr_int) rfl dJ7_copyOf_59c91_15 rfl hneg hnat (by show N * 4 ≤ _; omega) (Nat.le_of_ble_eq_true rfl) (by show 0 + N ≤ N; omega) rfl fun H1 cA2 e1 z1 o1 hAr hNm => ?_
    have hcA2 : cA2 = cA := Option.some.inj (hNm.symm.trans (X.2.1.2 0 _ ht).2)
    rw [hcA2] at e1
    have e1 : H1[s.heap.size]? = some (vp_cell cA (N, .inl (fun _ => 0))) := e1
    have hc0 : H1[h1]? = some (vp_cell cA (L, .inl g_h1)) := (o1 h1 hl1).trans hcell
    have hno : G s.heap.size = none := hB.1.fresh (Nat.le_refl _)
    have hB1 : iv_M iv_sh D classes tys base sz G s.heap H1 [] := ⟨hB.1.same (fun x k hx => o1 x (hB.1.lt hx)), hB.2.1.pushed (by omega) o1, hB.2.2⟩
    refine lv_astore_n (lv' := [(2, .ref s.heap.size), (0, .ref h1), (1, .int x_1)]) hx hb dJ7_copyOf_59c91_17 rfl hl (by decide) rfl (fun ls hl => ?_)
    refine lv_aload_n hx hb dJ7_copyOf_59c91_18 rfl (lv_at hl 1 rfl) ?_
    refine lv_iconst (v := 0) hx hb dJ7_copyOf_59c91_19 (by decide) ?_
    refine lv_aload_n hx hb dJ7_copyOf_59c91_20 rfl (lv_at hl 0 rfl) ?_
    refine lv_iconst (v := 0) hx hb dJ7_copyOf_59c91_21 (by decide) ?_
    refine lv_aload_n hx hb dJ7_copyOf_59c91_22 rfl (lv_at hl 1 rfl) ?_
    refine iv_alen X hB1.B a_h1 hs1 rfl dJ7_copyOf_59c91_23 ?_
    refine lv_iload_n hx hb dJ7_copyOf_59c91_24 rfl (lv_at hl 2 rfl) ?_
    have iL : iv_R 0 2000 L.toInt32 := ⟨by rw [iv_tI hL]; omega, by rw [iv_tI hL]; omega⟩
    have ix : iv_R 0 2000 x_1 := ⟨by omega, by omega⟩
    refine iv_mmin X hl.1 k_mm_J7_304 ⟨Nat.le_of_ble_eq_true rfl, Nat.le_of_ble_eq_true rfl⟩ ⟨Nat.le_of_ble_eq_true rfl, by show 0 + N ≤ N; omega⟩ iL ix (lo := 0) (hi := 2000) (by decide) dJ7_copyOf_59c91_25 (fun z ez iz => ?_)
    have hzn : z.toNatClampNeg = min N L := by
      show z.toInt.toNat = min N L
      rw [ez]
      by_cases q : x_1 < L.toInt32
      · rw [if_pos q]
        have q1 := Int32.lt_iff_toInt_lt.mp q
        rw [iv_tI hL] at q1
        omega
      · rw [if_neg q, iv_tI hL]
        have q1 := Int32.le_iff_toInt_le.mp (Int32.not_lt.mp q)
        rw [iv_tI hL] at q1
        omega
    have hzneg : ¬ z < 0 := fun q => by
      have q1 := Int32.lt_iff_toInt_lt.mp q
      rw [Int32.toInt_zero] at q1
      have := iz.1
      omega
    have z0 : (0 : Int32).toNatClampNeg = 0 := by decide +kernel
    refine iv_acopy X ht hc0 e1 k_ml_J7_150 k_cpn k_cps k_ini_System (by decide +kernel) (by decide +kernel) hzneg (by rw [z0, hzn]; omega) (by rw [z0, hzn]; omega) hl.1 (Nat.le_of_ble_eq_true rfl) (Nat.le_of_ble_eq_true rfl) dJ7_copyOf_59c91_28 (fun H2 Lc e2 z2 o2 hLc => ?_)
    rw [z0, hzn] at e2
    have hB2 : iv_M iv_sh D classes tys base sz G s.heap H2 ([] ++ Lc) := ⟨hB1.1.same (fun x k hx => o2 x (fun e9 => by rw [e9, hno] at hx; cases hx)), ⟨by rw [z2]; exact hB1.2.1.1, fun q g1 g2 => (o2 q (by omega)).trans (hB1.2.1.2.1 q g1 g2), fun q hq => by
      have h9 : q.base = s.heap.size := hLc q (by simpa using hq)
      show sz ≤ q.base
      rw [h9]
      exact Nat.le_of_eq hz⟩, hB1.2.2⟩
    have hF : ∀ i, i < N → va_cpy g_h1 (fun _ => 0) 0 0 (min N L) i = iv_cz g_h1 L i := fun i hi => by
      unfold va_cpy iv_cz
      by_cases q : i < L
      · rw [if_pos ⟨Nat.zero_le _, by omega⟩, if_pos q, show 0 + (i - 0) = i by omega]
      · rw [if_neg (by omega), if_neg q]
    have hB3 := hB2.closeA hno (by omega) ht (rr := fun _ => 0) hs2 e2 (hP2 _ hF)
    refine lv_aload_n hx hb dJ7_copyOf_59c91_31 rfl (lv_at hl 0 rfl) ?_
    refine W.widen (k := 1) (n := N) (Nat.le_of_ble_eq_true rfl) (by omega) ?_
    exact iv_aretM X hr hlocks hB3 ⟨by omega, iv_gr.up (by omega), _, _, iv_up_eq, hF⟩ (Or.inr ⟨_, rfl⟩) dJ7_copyOf_59c91_32
  · have hNL : N = L := by
      have q1 := congrArg Int32.toInt c1
      rw [hxN, iv_tI hL] at q1
      omega
    refine lv_aload_n hx hb dJ7_copyOf_59c91_6 rfl (lv_at hl 0 rfl) ?_
    refine iv_clone X rfl ht hcell k_ml_J7_316 k_same_clone k_cln k_cli k_clsel hl.1 (Nat.le_of_ble_eq_true rfl) (Nat.le_of_ble_eq_true rfl) (Nat.le_of_ble_eq_true rfl) (by show 0 + L ≤ N; omega) dJ7_copyOf_59c91_7 (fun q H1 e1 hq o1 z1 hnm => ?_)
    have hP9 : va_P D classes [(q, .inl (cA, (L, .inl g_h1)))] H1 := fun k x hx => by
      have hz : k < 1 := (List.getElem?_eq_some_iff.mp hx).1
      rw [show k = 0 by omega] at hx
      cases hx
      exact e1
    refine va_castA hx hb X.1.2.2.2.1 (X.1.2.2.2.2 _ k_cl_J7_317) hP9 0 rfl hnm dJ7_copyOf_59c91_10 ?_
    have hno : G q = none := hB.1.fresh hq
    have hB1 : iv_M iv_sh D classes tys base sz G s.heap H1 [] := ⟨hB.1.same (fun x k hx => o1 x (hB.1.lt hx)), hB.2.1.pushed z1 o1, hB.2.2⟩
    have hF : ∀ i, i < N → g_h1 i = iv_cz g_h1 L i := fun i hi => by
      unfold iv_cz
      rw [if_pos (by omega)]
    have hB3 := hB1.closeA hno (by omega) ht (rr := fun _ => 0) hs2 (by rw [hNL]; exact e1) (hP2 _ hF)
    refine W.widen (k := 1) (n := N) (Nat.le_of_ble_eq_true rfl) (by omega) ?_
    exact iv_aretM X hr hlocks hB3 ⟨by omega, iv_gr.up (by omega), _, _, iv_up_eq, hF⟩ (Or.inr ⟨_, rfl⟩) dJ7_copyOf_59c91_13
