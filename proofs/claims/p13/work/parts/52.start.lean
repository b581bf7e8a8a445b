def st_tm (i : Nat) : Term := .string (iv_str.getD i ("", 0, "")).1 (iv_str.getD i ("", 0, "")).2.1
/-- what the Statement gives of the i-th string constant -/
def st_blk (i : Nat) : List Cond := Cond.exactly (st_tm i) "java/lang/String" :: Cond.eq (.field (st_tm i) "java/lang/String" "coder" "B") (.int 0) :: Cond.arrayOf (.field (st_tm i) "java/lang/String" "value" "[B") .byte :: Cond.eq (.length (.field (st_tm i) "java/lang/String" "value" "[B")) (.int (Int32.ofNat (iv_len.getD i 0))) :: ((List.range (iv_len.getD i 0)).map (fun j => Cond.eq (.elem (.field (st_tm i) "java/lang/String" "value" "[B") (.int (Int32.ofNat j))) (.int ((iv_byt.getD i []).getD j 0))) ++ (List.range i).map (fun j => Cond.not (Cond.eq (st_tm j) (st_tm i))))
set_option maxRecDepth 100000 in
theorem st_exp : (flatC (Jvm.Cond.and given_1 narrow_1)).drop 9 = (List.range 23).flatMap st_blk := by decide +kernel
theorem st_S {args : Array Value} {s : State} (hgv : (Jvm.Cond.and given_1 narrow_1).before args s = true) : ∃ adK adV : Nat → Nat, vk_S 23 iv_len iv_byt adK adV (fun q => s.heap.size ≤ q) s s.heap ∧ ∀ i : Nat, i < 23 → (st_tm i).eval args s none [] s = some (.ref (adK i)) := by
  have hw : ∀ i, i < 23 → ∀ w ∈ st_blk i, w.before args s = true := fun i hi w hw => flat_of_before _ hgv w (List.mem_of_mem_drop (i := 9) (by rw [st_exp]; exact List.mem_flatMap.mpr ⟨i, List.mem_range.mpr hi, hw⟩))
  refine vk_Sof (tm := st_tm) ?_ ?_ ?_ ?_ ?_ ?_ ?_ ?_
  · exact fun i hi => by have w1 := iv_lens i hi; omega
  · exact fun i hi => hw i hi _ (List.Mem.head _)
  · exact fun i hi => hw i hi _ (List.Mem.tail _ (List.Mem.head _))
  · exact fun i hi => hw i hi _ (List.Mem.tail _ (List.Mem.tail _ (List.Mem.head _)))
  · exact fun i hi => hw i hi _ (List.Mem.tail _ (List.Mem.tail _ (List.Mem.tail _ (List.Mem.head _))))
  · exact fun i hi j hj => hw i hi _ (List.Mem.tail _ (List.Mem.tail _ (List.Mem.tail _ (List.Mem.tail _ (List.mem_append.mpr (Or.inl (List.mem_map.mpr ⟨j, List.mem_range.mpr hj, rfl⟩)))))))
  · intro i j hi hj hne
    rcases Nat.lt_or_gt_of_ne hne with h | h
    · exact Or.inl (hw j hj _ (List.Mem.tail _ (List.Mem.tail _ (List.Mem.tail _ (List.Mem.tail _ (List.mem_append.mpr (Or.inr (List.mem_map.mpr ⟨i, List.mem_range.mpr h, rfl⟩))))))))
    · exact Or.inr (hw i hi _ (List.Mem.tail _ (List.Mem.tail _ (List.Mem.tail _ (List.Mem.tail _ (List.mem_append.mpr (Or.inr (List.mem_map.mpr ⟨j, List.mem_range.mpr h, rfl⟩))))))))
  · intro a ha h
    exact absurd (show s.heap.size ≤ a from h) (by omega)
set_option maxRecDepth 100000 in
theorem st_ref : ∀ q ∈ iv_str, Cond.stringRef q.1 q.2.1 q.2.2 ∈ lw_tbl := by decide +kernel
set_option maxRecDepth 100000 in
theorem st_nest : ∀ q ∈ iv_nest, Cond.methodLinkNest q.1 q.2.1 q.2.2.1 q.2.2.2 ∈ lw_tbl := by decide +kernel
set_option maxRecDepth 100000 in
theorem st_w : Cond.laysStatic "java/lang/String" "COMPACT_STRINGS" "Z" ∈ lw_tbl ∧ Cond.initialized "java/lang/String" ∈ lw_tbl ∧ Cond.laysStatic "jdk/internal/util/Preconditions" "SIOOBE_FORMATTER" "Ljava/util/function/BiFunction;" ∈ lw_tbl ∧ Cond.initialized "jdk/internal/util/Preconditions" ∈ lw_tbl ∧ Cond.castable "[I" "java/lang/Cloneable" ∈ lw_tbl ∧ Cond.arrayOver (.object "UnbornBells$Bell") ∈ lw_tbl ∧ Cond.arrayOver (.array .int) ∈ lw_tbl ∧ Cond.arrayClass .int ∈ lw_tbl := by decide +kernel
set_option maxRecDepth 100000 in
theorem st_g : Cond.eq (.static "java/lang/String" "COMPACT_STRINGS" "Z") (.int 1) ∈ flatC (Jvm.Cond.and given_1 narrow_1) ∧ Cond.isRef (.static "jdk/internal/util/Preconditions" "SIOOBE_FORMATTER" "Ljava/util/function/BiFunction;") ∈ flatC (Jvm.Cond.and given_1 narrow_1) := by decide +kernel

set_option maxHeartbeats 4000000 in
theorem st_D {s : State} {b : Nat} (hts : ∀ w ∈ lw_tbl, w.before #[.ref b] s = true) (hgv : (Jvm.Cond.and given_1 narrow_1).before #[.ref b] s = true) : ∃ (D : va_G) (tys : List (ClassId × FieldType)), va_K D classes tys s ∧ iv_N s.heap.size D s ∧ iv_ty tys := by
  have hA : ∀ a : Nat, a < s.heap.size → ¬ (fun q => s.heap.size ≤ q) a := fun a ha h => absurd (show s.heap.size ≤ a from h) (by omega)
  have hts0 : ∀ w ∈ iv_W0, w.before #[.ref b] s = true := fun w hw => hts w (List.mem_filter.mp hw).1
  obtain ⟨w1, w2, w3, w4, w5, w6, w7, w8⟩ := st_w
  obtain ⟨adK, adV, hS, hE⟩ := st_S hgv
  have hZ := va_Zof (hts _ w1) (hts _ w2) (va_eqi (flat_of_before _ hgv _ st_g.1)) hA
  obtain ⟨fv, hF⟩ : ∃ fv : Nat → Nat, va_Z "jdk/internal/util/Preconditions" "SIOOBE_FORMATTER" "Ljava/util/function/BiFunction;" (if fv 1 = 0 then .null else .ref (fv 0)) (fun q => s.heap.size ≤ q) s s.heap := by
    rcases va_Zqof (hts _ w3) (hts _ w4) (flat_of_before _ hgv _ st_g.2) hA with h | ⟨t, h⟩
    · exact ⟨fun _ => 0, h⟩
    · exact ⟨fun k => if k = 0 then t else 1, h⟩

  obtain ⟨c0, i0, K0⟩ := u_known hts0 ft_X0.2.1 (hts0 _ k_it_X0)
  obtain ⟨c1, i1, K1⟩ := u_known hts0 ft_X1.2.1 (hts0 _ k_it_X1)
  obtain ⟨c2, i2, K2⟩ := u_known hts0 ft_X2.2.1 (hts0 _ k_it_X2)
  obtain ⟨c3, i3, K3⟩ := u_known hts0 ft_X3.2.1 (hts0 _ k_it_X3)
  obtain ⟨c4, i4, K4⟩ := u_known hts0 ft_X4.2.1 (hts0 _ k_it_X4)
  obtain ⟨c5, i5, K5⟩ := u_known hts0 ft_X5.2.1 (hts0 _ k_it_X5)
  obtain ⟨c6, i6, K6⟩ := u_known hts0 ft_X6.2.1 (hts0 _ k_it_X6)
  obtain ⟨c7, i7, K7⟩ := u_known hts0 ft_X7.2.1 (hts0 _ k_it_X7)
  obtain ⟨c8, i8, K8⟩ := u_known hts0 ft_X8.2.1 (hts0 _ k_it_X8)
  obtain ⟨c9, i9, K9⟩ := u_known hts0 ft_X9.2.1 (hts0 _ k_it_X9)
  obtain ⟨c10, i10, K10⟩ := u_known hts0 ft_X10.2.1 (hts0 _ k_it_X10)
  obtain ⟨c11, i11, K11⟩ := u_known hts0 ft_X11.2.1 (hts0 _ k_it_X11)
  obtain ⟨c12, i12, K12⟩ := u_known hts0 ft_X12.2.1 (hts0 _ k_it_X12)
  obtain ⟨cA, kA, compA, a1, a2, a3⟩ := Cond.arrayClass_spec (hts _ w8)
  obtain ⟨compB, cB, kB, b1, b0, b2, b3, b4⟩ := Cond.arrayOver_spec (hts _ w6)
  obtain ⟨compC, cC, kC, d1, d0, d2, d3, d4⟩ := arrayOverA_spec (hts _ w7)
  refine ⟨(fun c => [c0, c1, c2, c3, c4, c5, c6, c7, c8, c9, c10, c11, c12].getD c 0, fun c => if c = 100 then adK else if c = 101 then adV else if c = 102 then fv else [i0, i1, i2, i3, i4, i5, i6, i7, i8, i9, i10, i11, i12].getD c (fun _ => 0)), [(cA, .int), (cB, .object "UnbornBells$Bell"), (cC, .array .int)], ⟨?_, ?_⟩, ⟨?_, hS, ?_, hZ, hF, ?_⟩, ⟨⟨cA, rfl⟩, ⟨cB, rfl⟩, ⟨cC, rfl⟩⟩⟩
  · intro c q hq
    have hc : c < 13 := (List.getElem?_eq_some_iff.mp hq).1
    match c, hc, hq with
    | 0, _, hq => exact (Option.some.inj (ft_X0.1.symm.trans hq)) ▸ K0
    | 1, _, hq => exact (Option.some.inj (ft_X1.1.symm.trans hq)) ▸ K1
    | 2, _, hq => exact (Option.some.inj (ft_X2.1.symm.trans hq)) ▸ K2
    | 3, _, hq => exact (Option.some.inj (ft_X3.1.symm.trans hq)) ▸ K3
    | 4, _, hq => exact (Option.some.inj (ft_X4.1.symm.trans hq)) ▸ K4
    | 5, _, hq => exact (Option.some.inj (ft_X5.1.symm.trans hq)) ▸ K5
    | 6, _, hq => exact (Option.some.inj (ft_X6.1.symm.trans hq)) ▸ K6
    | 7, _, hq => exact (Option.some.inj (ft_X7.1.symm.trans hq)) ▸ K7
    | 8, _, hq => exact (Option.some.inj (ft_X8.1.symm.trans hq)) ▸ K8
    | 9, _, hq => exact (Option.some.inj (ft_X9.1.symm.trans hq)) ▸ K9
    | 10, _, hq => exact (Option.some.inj (ft_X10.1.symm.trans hq)) ▸ K10
    | 11, _, hq => exact (Option.some.inj (ft_X11.1.symm.trans hq)) ▸ K11
    | 12, _, hq => exact (Option.some.inj (ft_X12.1.symm.trans hq)) ▸ K12
    | c + 13, h, _ => exact absurd h (by omega)
  · intro k q hq
    have hk : k < 3 := (List.getElem?_eq_some_iff.mp hq).1
    match k, hk, hq with
    | 0, _, hq => cases hq; exact ⟨fun N z => ⟨(fun k h => by cases h), kA, a2, compA, a3⟩, a1⟩
    | 1, _, hq => cases hq; exact ⟨fun N z => ⟨(fun k h => by cases h), kB, b2, compB, b3⟩, ⟨kB, compB, b2, b3, b1, b4⟩⟩
    | 2, _, hq => cases hq; exact ⟨fun N z => ⟨(fun k h => by cases h), kC, d2, compC, d3⟩, d4⟩
    | k + 3, h, _ => exact absurd h (by omega)
  · exact fun q hq => va_tabs rfl rfl (hts _ (st_nest q hq))
  · intro i q hq
    have hi : i < 23 := (List.getElem?_eq_some_iff.mp hq).1
    have e1 : st_tm i = .string q.1 q.2.1 := by
      unfold st_tm
      rw [List.getD_eq_getElem?_getD, hq]
      rfl
    exact vk_R.of (hts _ (st_ref q (List.mem_of_getElem? hq))) (by rw [← e1]; exact hE i hi)
  · exact ⟨va_tabs rfl rfl (hts _ w5), va_AO.of (hts _ w6), over_moved (Vm.Alike.refl s.vm) (hts _ w7)⟩
