theorem dL_law_0 : decode cL_law 0 = .ok (.new 7, 3) := by decide +kernel
theorem dL_law_3 : decode cL_law 3 = .ok (.dup, 1) := by decide +kernel
theorem dL_law_4 : decode cL_law 4 = .ok (.invokespecial 9, 3) := by decide +kernel
theorem dL_law_7 : decode cL_law 7 = .ok (.astore_n 1, 1) := by decide +kernel
theorem dL_law_8 : decode cL_law 8 = .ok (.new 10, 3) := by decide +kernel
theorem dL_law_11 : decode cL_law 11 = .ok (.dup, 1) := by decide +kernel
theorem dL_law_12 : decode cL_law 12 = .ok (.invokespecial 12, 3) := by decide +kernel
theorem dL_law_15 : decode cL_law 15 = .ok (.astore_n 2, 1) := by decide +kernel
theorem dL_law_16 : decode cL_law 16 = .ok (.iconst 0, 1) := by decide +kernel
theorem dL_law_17 : decode cL_law 17 = .ok (.istore_n 3, 1) := by decide +kernel
theorem dL_law_18 : decode cL_law 18 = .ok (.iload_n 3, 1) := by decide +kernel
theorem dL_law_19 : decode cL_law 19 = .ok (.aload_n 0, 1) := by decide +kernel
theorem dL_law_20 : decode cL_law 20 = .ok (.arraylength, 1) := by decide +kernel
theorem dL_law_21 : decode cL_law 21 = .ok (.bipush 7, 2) := by decide +kernel
theorem dL_law_23 : decode cL_law 23 = .ok (.isub, 1) := by decide +kernel
theorem dL_law_24 : decode cL_law 24 = .ok (.if_icmp .gt 1602, 3) := by decide +kernel
theorem dL_law_27 : decode cL_law 27 = .ok (.aload_n 0, 1) := by decide +kernel
theorem dL_law_28 : decode cL_law 28 = .ok (.iload_n 3, 1) := by decide +kernel
theorem dL_law_29 : decode cL_law 29 = .ok (.iaload, 1) := by decide +kernel
theorem dL_law_30 : decode cL_law 30 = .ok (.bipush 63, 2) := by decide +kernel
theorem dL_law_32 : decode cL_law 32 = .ok (.iand, 1) := by decide +kernel
theorem dL_law_33 : decode cL_law 33 = .ok (.tableswitch 1587 0 43 #[191, 214, 257, 310, 353, 376, 425, 458, 481, 544, 567, 590, 613, 646, 689, 722, 755, 788, 831, 854, 887, 920, 953, 976, 1019, 1042, 1065, 1098, 1131, 1206, 1229, 1252, 1275, 1298, 1311, 1334, 1357, 1400, 1423, 1446, 1479, 1512, 1525, 1564], 191) := by decide +kernel
theorem dL_law_1620 : decode cL_law 1620 = .ok (.iinc 3 7, 3) := by decide +kernel
theorem dL_law_1623 : decode cL_law 1623 = .ok (.goto (-1605), 3) := by decide +kernel
theorem dL_law_1626 : decode cL_law 1626 = .ok (.iconst 1, 1) := by decide +kernel
theorem dL_law_1627 : decode cL_law 1627 = .ok (.ireturn, 1) := by decide +kernel
set_option maxHeartbeats 4000000 in
set_option maxRecDepth 100000 in
theorem law_loop {p : Program} {l : Launch} {e : Env} {R : Room} {s : State} {m : MethodId} {args : Array Value} {below : List Frame} {meth : Method} {c : Code} {Q : State → Prop} {D : va_G} {tys : List (ClassId × FieldType)} {base b L : Nat} {xs : Nat → Int32} (X : iv_X p m c cL_law 4 s args iv_W0 RL D classes tys base) (hty : iv_ty tys) (hRf : 1300 ≤ R.frames) (hRl : 26000 ≤ R.locals) (hX : va_X b L xs s s.heap) (hbl : b < s.heap.size) (hbb : b < base) {h1 h2 : Nat} (hLL : L ≤ 3584) {C0 S0 : Nat} (hRc : C0 + 3591 ≤ R.cells) (hRs : S0 + 459648 ≤ R.slots)
    (kk : ∀ (cells slots : Nat) (G1 : iv_G) (H1 : Heap) (locs1 : List Loc) (ls : Array Slot), cells ≤ C0 + 3591 → slots ≤ S0 + 459648 → iv_B iv_sh D classes tys base G1 s.heap H1 locs1 → W p l e R s m args below meth c H1 locs1 cells slots Q (F0 m 1626 ls [])) :
    ∀ (n k : Nat) (t i : Int32) (G : iv_G) (H : Heap) (locs : List Loc) (ls : Array Slot), i.toInt = (7 : Int) * (k : Int) → 7 * k ≤ L → L < 7 * k + 7 * n → iv_B iv_sh D classes tys base G s.heap H locs → lw_J t t h1 h2 G → lv_has ls 4 [(3, .int i), (0, .ref b), (1, .ref h1), (2, .ref h2)] → W p l e R s m args below meth c H locs (C0 + 7 * k) (S0 + 896 * k) Q (F0 m 18 ls []) := by
  have hx := X.1.1
  have hb := X.1.2.1
  have hbA : ¬ iv_A base b := fun q => absurd (show base ≤ b from q) (by omega)
  have hLt : (Int32.ofNat L).toInt = (L : Int) := nI_toInt (n := L) (by omega)
  have iL : iv_R 0 3584 (Int32.ofNat L) := ⟨by omega, by omega⟩
  intro n
  induction n with
  | zero => intro k t i G H locs ls hi hk hn; exact absurd hn (by omega)
  | succ n ih =>
    intro k t i G H locs ls hi hk hn hB hJ hl
    have ii : iv_R 0 3584 i := ⟨by omega, by omega⟩
    refine lv_iload_n hx hb dL_law_18 rfl (lv_at hl 0 rfl) ?_
    refine lv_aload_n hx hb dL_law_19 rfl (lv_at hl 1 rfl) ?_
    refine va_slen hx hb hX hbl hbA hB.2.1 dL_law_20 ?_
    refine lv_bipush (v := 7) hx hb dL_law_21 (by decide) ?_
    refine iv_isub hx hb iL q_7 (lo := -7) (hi := 3577) (by decide) dL_law_23 (fun y e_y i_y => ?_)
    have e7 : (7 : Int32).toInt = 7 := rfl
    refine lv_icmp_gt (tgt := 1626) hx hb dL_law_24 (by decide) (fun c1 => kk _ _ _ _ _ _ (by omega) (by omega) hB) (fun c1 => ?_)
    have hiL : i.toInt + 7 ≤ (L : Int) := by
      have w := mt Int32.lt_iff_toInt_lt.mpr c1
      omega
    have ii2 : iv_R 0 3577 i := ⟨by omega, by omega⟩
    refine lv_aload_n hx hb dL_law_27 rfl (lv_at hl 1 rfl) ?_
    refine lv_iload_n hx hb dL_law_28 rfl (lv_at hl 0 rfl) ?_
    refine va_sld hx hb hX hbl hbA hB.2.1 (iv_inU ii2 (by decide) (by omega)) dL_law_29 ?_
    refine lv_topi (fun x1 e_x1 => ?_)
    refine lv_bipush (v := 63) hx hb dL_law_30 (by decide) ?_
    refine iv_iand_r hx hb q_63 (by decide) dL_law_32 (fun z e_z i_z => ?_)
    have z0 := i_z.1
    have z1 := i_z.2
    have KK : ∀ (t' : Int32) (G1 : iv_G) (H1 : Heap) (locs1 : List Loc), iv_B iv_sh D classes tys base G1 s.heap H1 locs1 → lw_J t' t' h1 h2 G1 → W p l e R s m args below meth c H1 locs1 (C0 + 7 * k + 7) (S0 + 896 * k + 896) Q (F0 m 1620 ls []) := by
      intro t' G1 H1 locs1 hB1 hJ1
      refine iv_iinc hx hb ii2 (lo := 7) (hi := 3584) (by decide) dL_law_1620 hl (k := 0) rfl (by decide) (fun i' ls' e_i' i_i' hl' => ?_)
      refine lv_goto (tgt := 18) hx hb dL_law_1623 (by decide) ?_
      refine W.widen (k := C0 + 7 * (k + 1)) (n := S0 + 896 * (k + 1)) (by omega) (by omega) ?_
      exact ih (k + 1) t' i' G1 H1 locs1 ls' (by omega) (by omega) (by omega) hB1 hJ1 hl'
    by_cases w0 : z.toInt = 0
    · refine lv_tableIn (tgt := 224) hx hb dL_law_33 (by omega) (by omega) (by rw [w0]; rfl) (by decide) ?_
      exact law_c0 X hty hRf hRl hX hbl hbb ii2 hiL (by omega) (by omega) hB hJ hl KK
    by_cases w1 : z.toInt = 1
    · refine lv_tableIn (tgt := 247) hx hb dL_law_33 (by omega) (by omega) (by rw [w1]; rfl) (by decide) ?_
      exact law_c1 X hty hRf hRl hX hbl hbb ii2 hiL (by omega) (by omega) hB hJ hl KK
    by_cases w2 : z.toInt = 2
    · refine lv_tableIn (tgt := 290) hx hb dL_law_33 (by omega) (by omega) (by rw [w2]; rfl) (by decide) ?_
      exact law_c2 X hty hRf hRl hX hbl hbb ii2 hiL (by omega) (by omega) hB hJ hl KK
    by_cases w3 : z.toInt = 3
    · refine lv_tableIn (tgt := 343) hx hb dL_law_33 (by omega) (by omega) (by rw [w3]; rfl) (by decide) ?_
      exact law_c3 X hty hRf hRl hX hbl hbb ii2 hiL (by omega) (by omega) hB hJ hl KK
    by_cases w4 : z.toInt = 4
    · refine lv_tableIn (tgt := 386) hx hb dL_law_33 (by omega) (by omega) (by rw [w4]; rfl) (by decide) ?_
      exact law_c4 X hty hRf hRl hX hbl hbb ii2 hiL (by omega) (by omega) hB hJ hl KK
    by_cases w5 : z.toInt = 5
    · refine lv_tableIn (tgt := 409) hx hb dL_law_33 (by omega) (by omega) (by rw [w5]; rfl) (by decide) ?_
      exact law_c5 X hty hRf hRl hX hbl hbb ii2 hiL (by omega) (by omega) hB hJ hl KK
    by_cases w6 : z.toInt = 6
    · refine lv_tableIn (tgt := 458) hx hb dL_law_33 (by omega) (by omega) (by rw [w6]; rfl) (by decide) ?_
      exact law_c6 X hty hRf hRl hX hbl hbb ii2 hiL (by omega) (by omega) hB hJ hl KK
    by_cases w7 : z.toInt = 7
    · refine lv_tableIn (tgt := 491) hx hb dL_law_33 (by omega) (by omega) (by rw [w7]; rfl) (by decide) ?_
      exact law_c7 X hty hRf hRl hX hbl hbb ii2 hiL (by omega) (by omega) hB hJ hl KK
    by_cases w8 : z.toInt = 8
    · refine lv_tableIn (tgt := 514) hx hb dL_law_33 (by omega) (by omega) (by rw [w8]; rfl) (by decide) ?_
      exact law_c8 X hty hRf hRl hX hbl hbb ii2 hiL (by omega) (by omega) hB hJ hl KK
    by_cases w9 : z.toInt = 9
    · refine lv_tableIn (tgt := 577) hx hb dL_law_33 (by omega) (by omega) (by rw [w9]; rfl) (by decide) ?_
      exact law_c9 X hty hRf hRl hX hbl hbb ii2 hiL (by omega) (by omega) hB hJ hl KK
    by_cases w10 : z.toInt = 10
    · refine lv_tableIn (tgt := 600) hx hb dL_law_33 (by omega) (by omega) (by rw [w10]; rfl) (by decide) ?_
      exact law_c10 X hty hRf hRl hX hbl hbb ii2 hiL (by omega) (by omega) hB hJ hl KK
    by_cases w11 : z.toInt = 11
    · refine lv_tableIn (tgt := 623) hx hb dL_law_33 (by omega) (by omega) (by rw [w11]; rfl) (by decide) ?_
      exact law_c11 X hty hRf hRl hX hbl hbb ii2 hiL (by omega) (by omega) hB hJ hl KK
    by_cases w12 : z.toInt = 12
    · refine lv_tableIn (tgt := 646) hx hb dL_law_33 (by omega) (by omega) (by rw [w12]; rfl) (by decide) ?_
      exact law_c12 X hty hRf hRl hX hbl hbb ii2 hiL (by omega) (by omega) hB hJ hl KK
    by_cases w13 : z.toInt = 13
    · refine lv_tableIn (tgt := 679) hx hb dL_law_33 (by omega) (by omega) (by rw [w13]; rfl) (by decide) ?_
      exact law_c13 X hty hRf hRl hX hbl hbb ii2 hiL (by omega) (by omega) hB hJ hl KK
    by_cases w14 : z.toInt = 14
    · refine lv_tableIn (tgt := 722) hx hb dL_law_33 (by omega) (by omega) (by rw [w14]; rfl) (by decide) ?_
      exact law_c14 X hty hRf hRl hX hbl hbb ii2 hiL (by omega) (by omega) hB hJ hl KK
    by_cases w15 : z.toInt = 15
    · refine lv_tableIn (tgt := 755) hx hb dL_law_33 (by omega) (by omega) (by rw [w15]; rfl) (by decide) ?_
      exact law_c15 X hty hRf hRl hX hbl hbb ii2 hiL (by omega) (by omega) hB hJ hl KK
    by_cases w16 : z.toInt = 16
    · refine lv_tableIn (tgt := 788) hx hb dL_law_33 (by omega) (by omega) (by rw [w16]; rfl) (by decide) ?_
      exact law_c16 X hty hRf hRl hX hbl hbb ii2 hiL (by omega) (by omega) hB hJ hl KK
    by_cases w17 : z.toInt = 17
    · refine lv_tableIn (tgt := 821) hx hb dL_law_33 (by omega) (by omega) (by rw [w17]; rfl) (by decide) ?_
      exact law_c17 X hty hRf hRl hX hbl hbb ii2 hiL (by omega) (by omega) hB hJ hl KK
    by_cases w18 : z.toInt = 18
    · refine lv_tableIn (tgt := 864) hx hb dL_law_33 (by omega) (by omega) (by rw [w18]; rfl) (by decide) ?_
      exact law_c18 X hty hRf hRl hX hbl hbb ii2 hiL (by omega) (by omega) hB hJ hl KK
    by_cases w19 : z.toInt = 19
    · refine lv_tableIn (tgt := 887) hx hb dL_law_33 (by omega) (by omega) (by rw [w19]; rfl) (by decide) ?_
      exact law_c19 X hty hRf hRl hX hbl hbb ii2 hiL (by omega) (by omega) hB hJ hl KK
    by_cases w20 : z.toInt = 20
    · refine lv_tableIn (tgt := 920) hx hb dL_law_33 (by omega) (by omega) (by rw [w20]; rfl) (by decide) ?_
      exact law_c20 X hty hRf hRl hX hbl hbb ii2 hiL (by omega) (by omega) hB hJ hl KK
    by_cases w21 : z.toInt = 21
    · refine lv_tableIn (tgt := 953) hx hb dL_law_33 (by omega) (by omega) (by rw [w21]; rfl) (by decide) ?_
      exact law_c21 X hty hRf hRl hX hbl hbb ii2 hiL (by omega) (by omega) hB hJ hl KK
    by_cases w22 : z.toInt = 22
    · refine lv_tableIn (tgt := 986) hx hb dL_law_33 (by omega) (by omega) (by rw [w22]; rfl) (by decide) ?_
      exact law_c22 X hty hRf hRl hX hbl hbb ii2 hiL (by omega) (by omega) hB hJ hl KK
    by_cases w23 : z.toInt = 23
    · refine lv_tableIn (tgt := 1009) hx hb dL_law_33 (by omega) (by omega) (by rw [w23]; rfl) (by decide) ?_
      exact law_c23 X hty hRf hRl hX hbl hbb ii2 hiL (by omega) (by omega) hB hJ hl KK
    by_cases w24 : z.toInt = 24
    · refine lv_tableIn (tgt := 1052) hx hb dL_law_33 (by omega) (by omega) (by rw [w24]; rfl) (by decide) ?_
      exact law_c24 X hty hRf hRl hX hbl hbb ii2 hiL (by omega) (by omega) hB hJ hl KK
    by_cases w25 : z.toInt = 25
    · refine lv_tableIn (tgt := 1075) hx hb dL_law_33 (by omega) (by omega) (by rw [w25]; rfl) (by decide) ?_
      exact law_c25 X hty hRf hRl hX hbl hbb ii2 hiL (by omega) (by omega) hB hJ hl KK
    by_cases w26 : z.toInt = 26
    · refine lv_tableIn (tgt := 1098) hx hb dL_law_33 (by omega) (by omega) (by rw [w26]; rfl) (by decide) ?_
      exact law_c26 X hty hRf hRl hX hbl hbb ii2 hiL (by omega) (by omega) hB hJ hl KK
    by_cases w27 : z.toInt = 27
    · refine lv_tableIn (tgt := 1131) hx hb dL_law_33 (by omega) (by omega) (by rw [w27]; rfl) (by decide) ?_
      exact law_c27 X hty hRf hRl hX hbl hbb ii2 hiL (by omega) (by omega) hB hJ hl KK
    by_cases w28 : z.toInt = 28
    · refine lv_tableIn (tgt := 1164) hx hb dL_law_33 (by omega) (by omega) (by rw [w28]; rfl) (by decide) ?_
      exact law_c28 X hty hRf hRl hX hbl hbb ii2 hiL (by omega) (by omega) hB hJ hl KK
    by_cases w29 : z.toInt = 29
    · refine lv_tableIn (tgt := 1239) hx hb dL_law_33 (by omega) (by omega) (by rw [w29]; rfl) (by decide) ?_
      exact law_c29 X hty hRf hRl hX hbl hbb ii2 hiL (by omega) (by omega) hB hJ hl KK
    by_cases w30 : z.toInt = 30
    · refine lv_tableIn (tgt := 1262) hx hb dL_law_33 (by omega) (by omega) (by rw [w30]; rfl) (by decide) ?_
      exact law_c30 X hty hRf hRl hX hbl hbb ii2 hiL (by omega) (by omega) hB hJ hl KK
    by_cases w31 : z.toInt = 31
    · refine lv_tableIn (tgt := 1285) hx hb dL_law_33 (by omega) (by omega) (by rw [w31]; rfl) (by decide) ?_
      exact law_c31 X hty hRf hRl hX hbl hbb ii2 hiL (by omega) (by omega) hB hJ hl KK
    by_cases w32 : z.toInt = 32
    · refine lv_tableIn (tgt := 1308) hx hb dL_law_33 (by omega) (by omega) (by rw [w32]; rfl) (by decide) ?_
      exact law_c32 X hty hRf hRl hX hbl hbb ii2 hiL (by omega) (by omega) hB hJ hl KK
    by_cases w33 : z.toInt = 33
    · refine lv_tableIn (tgt := 1331) hx hb dL_law_33 (by omega) (by omega) (by rw [w33]; rfl) (by decide) ?_
      exact law_c33 X hty hRf hRl hX hbl hbb ii2 hiL (by omega) (by omega) hB hJ hl KK
    by_cases w34 : z.toInt = 34
    · refine lv_tableIn (tgt := 1344) hx hb dL_law_33 (by omega) (by omega) (by rw [w34]; rfl) (by decide) ?_
      exact law_c34 X hty hRf hRl hX hbl hbb ii2 hiL (by omega) (by omega) hB hJ hl KK
    by_cases w35 : z.toInt = 35
    · refine lv_tableIn (tgt := 1367) hx hb dL_law_33 (by omega) (by omega) (by rw [w35]; rfl) (by decide) ?_
      exact law_c35 X hty hRf hRl hX hbl hbb ii2 hiL (by omega) (by omega) hB hJ hl KK
    by_cases w36 : z.toInt = 36
    · refine lv_tableIn (tgt := 1390) hx hb dL_law_33 (by omega) (by omega) (by rw [w36]; rfl) (by decide) ?_
      exact law_c36 X hty hRf hRl hX hbl hbb ii2 hiL (by omega) (by omega) hB hJ hl KK
    by_cases w37 : z.toInt = 37
    · refine lv_tableIn (tgt := 1433) hx hb dL_law_33 (by omega) (by omega) (by rw [w37]; rfl) (by decide) ?_
      exact law_c37 X hty hRf hRl hX hbl hbb ii2 hiL (by omega) (by omega) hB hJ hl KK
    by_cases w38 : z.toInt = 38
    · refine lv_tableIn (tgt := 1456) hx hb dL_law_33 (by omega) (by omega) (by rw [w38]; rfl) (by decide) ?_
      exact law_c38 X hty hRf hRl hX hbl hbb ii2 hiL (by omega) (by omega) hB hJ hl KK
    by_cases w39 : z.toInt = 39
    · refine lv_tableIn (tgt := 1479) hx hb dL_law_33 (by omega) (by omega) (by rw [w39]; rfl) (by decide) ?_
      exact law_c39 X hty hRf hRl hX hbl hbb ii2 hiL (by omega) (by omega) hB hJ hl KK
    by_cases w40 : z.toInt = 40
    · refine lv_tableIn (tgt := 1512) hx hb dL_law_33 (by omega) (by omega) (by rw [w40]; rfl) (by decide) ?_
      exact law_c40 X hty hRf hRl hX hbl hbb ii2 hiL (by omega) (by omega) hB hJ hl KK
    by_cases w41 : z.toInt = 41
    · refine lv_tableIn (tgt := 1545) hx hb dL_law_33 (by omega) (by omega) (by rw [w41]; rfl) (by decide) ?_
      exact law_c41 X hty hRf hRl hX hbl hbb ii2 hiL (by omega) (by omega) hB hJ hl KK
    by_cases w42 : z.toInt = 42
    · refine lv_tableIn (tgt := 1558) hx hb dL_law_33 (by omega) (by omega) (by rw [w42]; rfl) (by decide) ?_
      exact law_c42 X hty hRf hRl hX hbl hbb ii2 hiL (by omega) (by omega) hB hJ hl KK
    by_cases w43 : z.toInt = 43
    · refine lv_tableIn (tgt := 1597) hx hb dL_law_33 (by omega) (by omega) (by rw [w43]; rfl) (by decide) ?_
      exact law_c43 X hty hRf hRl hX hbl hbb ii2 hiL (by omega) (by omega) hB hJ hl KK
    refine lv_tableOut (tgt := 1620) hx hb dL_law_33 (by omega) (by decide) ?_
    exact W.widen (k := C0 + 7 * k + 7) (n := S0 + 896 * k + 896) (by omega) (by omega) (KK t G H locs hB hJ)
