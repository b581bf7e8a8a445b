theorem dX12_leastIn_0 : decode cX12_leastIn 0 = .ok (.iconst 0, 1) := by decide +kernel
theorem dX12_leastIn_1 : decode cX12_leastIn 1 = .ok (.istore_n 1, 1) := by decide +kernel
theorem dX12_leastIn_2 : decode cX12_leastIn 2 = .ok (.iload_n 0, 1) := by decide +kernel
theorem dX12_leastIn_3 : decode cX12_leastIn 3 = .ok (.iload_n 1, 1) := by decide +kernel
theorem dX12_leastIn_4 : decode cX12_leastIn 4 = .ok (.ishr, 1) := by decide +kernel
theorem dX12_leastIn_5 : decode cX12_leastIn 5 = .ok (.iconst 1, 1) := by decide +kernel
theorem dX12_leastIn_6 : decode cX12_leastIn 6 = .ok (.iand, 1) := by decide +kernel
theorem dX12_leastIn_7 : decode cX12_leastIn 7 = .ok (.ifCond .ne 9, 3) := by decide +kernel
theorem dX12_leastIn_10 : decode cX12_leastIn 10 = .ok (.iinc 1 1, 3) := by decide +kernel
theorem dX12_leastIn_13 : decode cX12_leastIn 13 = .ok (.goto (-11), 3) := by decide +kernel
theorem dX12_leastIn_16 : decode cX12_leastIn 16 = .ok (.iload_n 1, 1) := by decide +kernel
theorem dX12_leastIn_17 : decode cX12_leastIn 17 = .ok (.ireturn, 1) := by decide +kernel
theorem iv_lshr {x y : Int32} (h : iv_R 0 23 y) : (x >>> (y &&& 31)).toInt = x.toInt / 2 ^ y.toInt.toNat := by
  have h0 : ∀ m : Fin 24, (((m.val.toInt32) &&& 31).toBitVec.smod 32).toNat = m.val := by decide
  have h2 := h.1
  have h3 := h.2
  have e : y.toInt.toNat.toInt32 = y := Int32.toInt_inj.mp ((nI_toInt (by omega)).trans (by omega))
  have h1 := h0 ⟨y.toInt.toNat, by omega⟩
  have h1 : ((y.toInt.toNat.toInt32 &&& 31).toBitVec.smod 32).toNat = y.toInt.toNat := h1
  rw [e] at h1
  have e2 : (x >>> (y &&& 31)).toInt = (x.toBitVec.sshiftRight ((y &&& 31).toBitVec.smod 32).toNat).toInt := rfl
  rw [e2, h1, BitVec.toInt_sshiftRight, Int.shiftRight_eq_div_pow]
  rfl
theorem iv_even {z : Int32} (h0 : 0 ≤ z.toInt) (h : z &&& 1 = 0) : z.toInt % 2 = 0 := by
  have h1 : (z.toBitVec &&& 1#32).toNat = 0 := congrArg (fun v : Int32 => v.toBitVec.toNat) h
  rw [BitVec.toNat_and] at h1
  have h1 : z.toBitVec.toNat &&& 1 = 0 := h1
  rw [Nat.and_one_is_mod] at h1
  have c1 := BitVec.toInt_eq_toNat_cond z.toBitVec
  have h0 : 0 ≤ z.toBitVec.toInt := h0
  have h2 : z.toInt = z.toBitVec.toInt := rfl
  rw [h2]
  split at c1 <;> omega
theorem iv_least {x : Int32} {k : Nat} (h : iv_R 1 16777215 x) (hk : ((2 : Int) ^ k) ∣ x.toInt) : k ≤ 23 := by
  have h1 := Int.le_of_dvd (by have := h.1; omega) hk
  have h2 := h.2
  refine Decidable.byContradiction (fun q => ?_)
  have h3 : (2 : Int) ^ 24 ≤ 2 ^ k := by
    have : (2 : Nat) ^ 24 ≤ 2 ^ k := Nat.pow_le_pow_right (by decide) (by omega)
    exact_mod_cast this
  have h4 : (2 : Int) ^ 24 = 16777216 := by decide
  omega
theorem iv_least1 {x z : Int32} {k : Nat} (h : iv_R 1 16777215 x) (hk : ((2 : Int) ^ k) ∣ x.toInt) (e : z.toInt = x.toInt / 2 ^ k) (h0 : z &&& 1 = 0) : ((2 : Int) ^ (k + 1)) ∣ x.toInt := by
  obtain ⟨q, hq⟩ := hk
  have hp : (0 : Int) < 2 ^ k := Int.pow_pos (by decide)
  have e2 : x.toInt / 2 ^ k = q := by rw [hq]; exact Int.mul_ediv_cancel_left _ (by omega)
  rw [e2] at e
  have hq0 : 0 ≤ q := by
    rw [← e2]
    exact Int.ediv_nonneg (by have := h.1; omega) (by omega)
  have h3 := iv_even (by rw [e]; exact hq0) h0
  rw [e] at h3
  refine ⟨q / 2, ?_⟩
  have h4 : q = 2 * (q / 2) := by omega
  rw [hq, Int.pow_succ, Int.mul_assoc, ← h4]
set_option maxHeartbeats 4000000 in
set_option maxRecDepth 100000 in
theorem c_X12_leastIn (l : Launch) (D : va_G) (tys : List (ClassId × FieldType)) (base : Nat) (G : iv_G) (x_0 : Int32) (i_x_0 : iv_R 1 16777215 x_0) : Met l yX12_leastIn (Cond.code yX12_leastIn cX12_leastIn 2 (some .int) :: iv_W0) ({ frames := 0, cells := 0, slots := 0, locals := 0 }) (iv_Pc iv_sh D classes tys base G [.int x_0]) (iv_Qi iv_sh D classes tys base (fun v G' => G = G' ∧ iv_R 0 23 v)) 0 0 (iv_A base) := by
  refine iv_head (by decide) (Nat.le_of_ble_eq_true rfl) ?_
  intro p e s m args below meth c ls X hr hlocks hname hB hl
  have X := X
  have hx := X.1.1
  have hb := X.1.2.1
  have hl : lv_has ls 2 [(0, .int x_0)] := hl
  refine lv_iconst (v := 0) hx hb dX12_leastIn_0 (by decide) ?_
  refine lv_istore_n (lv' := [(1, .int 0), (0, .int x_0)]) hx hb dX12_leastIn_1 rfl hl (by decide) rfl (fun ls hl => ?_)
  have L_2 : ∀ (n_2 : Nat) (H : Heap) (locs : List Loc) (hB : iv_B iv_sh D classes tys base G s.heap H locs) (x1 : Int32) (i_x1 : iv_R 0 23 x1) (inv : ((2 : Int) ^ x1.toInt.toNat) ∣ x_0.toInt) (hn_2 : (24 - x1.toInt).toNat < n_2) (ls : Array Slot) (hl : lv_has ls 2 [(1, .int x1), (0, .int x_0)]), W p l e ({ frames := 0, cells := 0, slots := 0, locals := 0 } : Room) s m args below meth c H locs 0 0 (MQ below (iv_Qi iv_sh D classes tys base (fun v G' => G = G' ∧ iv_R 0 23 v)) args s 0 0 (iv_A base)) (F0 m 2 ls []) := by
    intro n_2
    induction n_2 with
    | zero => intro H locs hB x1 i_x1 inv hn_2; exact absurd hn_2 (Nat.not_lt_zero _)
    | succ n_2 ih_2 =>
      intro H locs hB x1 i_x1 inv hn_2 ls hl
      refine lv_iload_n hx hb dX12_leastIn_2 rfl (lv_at hl 1 rfl) ?_
      refine lv_iload_n hx hb dX12_leastIn_3 rfl (lv_at hl 0 rfl) ?_
      refine lv_ishr hx hb dX12_leastIn_4 ?_
      have e_z := iv_lshr (x := x_0) i_x1
      generalize x_0 >>> (x1 &&& 31) = z at e_z ⊢
      refine lv_iconst (v := 1) hx hb dX12_leastIn_5 (by decide) ?_
      refine lv_iand hx hb dX12_leastIn_6 ?_
      refine lv_if_ne (tgt := 16) hx hb dX12_leastIn_7 (by decide) (fun c4 => ?_) (fun c4 => ?_)
      · refine lv_iload_n hx hb dX12_leastIn_16 rfl (lv_at hl 0 rfl) ?_
        exact iv_iret X hr hlocks hB ⟨rfl, i_x1⟩ dX12_leastIn_17
      · have inv2 := iv_least1 i_x_0 inv e_z c4
        have hk := iv_least i_x_0 inv2
        have i1 : iv_R 0 22 x1 := ⟨i_x1.1, by have := i_x1.1; omega⟩
        refine iv_iinc hx hb i1 (lo := 1) (hi := 23) (by decide) dX12_leastIn_10 hl (k := 0) rfl (by decide) (fun x5 ls e_x5 i_x5 hl => ?_)
        have hl : lv_has ls 2 [(1, .int x5), (0, .int x_0)] := hl
        have w5 : x5.toInt = x1.toInt + 1 := e_x5
        refine lv_goto (tgt := 2) hx hb dX12_leastIn_13 (by decide) ?_
        exact ih_2 _ _ hB x5 (i_x5.wk (by decide)) (by have w1 := i_x1.1; rw [show x5.toInt.toNat = x1.toInt.toNat + 1 from by omega]; exact inv2) (by have := i_x1.1; have := i_x1.2; omega) _ (lv_sub hl [0, 1] rfl)
  exact L_2 _ _ _ hB 0 (q_0.wk (by decide)) (by show ((2 : Int) ^ (0 : Int32).toInt.toNat) ∣ _; exact ⟨x_0.toInt, by rw [show (0 : Int32).toInt.toNat = 0 from rfl]; omega⟩) (Nat.lt_succ_self _) _ (lv_sub hl [0, 1] rfl)
