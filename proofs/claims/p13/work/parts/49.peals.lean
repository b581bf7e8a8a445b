def iv_pcn (S : Nat) : Nat → Nat
  | 0 => 0
  | n + 1 => iv_pcn S n + S / 2 ^ n % 2
theorem iv_pcn.le (S : Nat) : ∀ n, iv_pcn S n ≤ n
  | 0 => Nat.le_refl _
  | n + 1 => by
    have h := iv_pcn.le S n
    show iv_pcn S n + S / 2 ^ n % 2 ≤ n + 1
    omega
theorem iv_pcn.mono (S : Nat) {n : Nat} : ∀ k, iv_pcn S n ≤ iv_pcn S (n + k)
  | 0 => Nat.le_refl _
  | k + 1 => by
    have h := iv_pcn.mono S (n := n) k
    show iv_pcn S n ≤ iv_pcn S (n + k) + S / 2 ^ (n + k) % 2
    omega
theorem iv_pcn.top {S n : Nat} (hS : S < 2 ^ n) : ∀ k, iv_pcn S (n + k) = iv_pcn S n
  | 0 => rfl
  | k + 1 => by
    have h := iv_pcn.top hS k
    have h2 : S / 2 ^ (n + k) = 0 := Nat.div_eq_of_lt (Nat.lt_of_lt_of_le hS (Nat.pow_le_pow_right (by decide) (by omega)))
    show iv_pcn S (n + k) + S / 2 ^ (n + k) % 2 = _
    rw [h2, h]
    rfl
theorem iv_bN8 : ∀ S : Fin 1024, ∀ i : Fin 24, ((S.val.toInt32 >>> (i.val.toInt32 &&& 31)) &&& 1).toInt = ((S.val / 2 ^ i.val % 2 : Nat) : Int) := by decide +kernel
theorem iv_bval {x i a b : Int32} (hx : iv_R 0 1023 x) (hi : iv_R 0 23 i) (ha : a = x >>> (i &&& 31)) (hb : b = a &&& 1) : b.toInt = ((x.toInt.toNat / 2 ^ i.toInt.toNat % 2 : Nat) : Int) := by
  have h1 := hx.1
  have h2 := hx.2
  have h3 := hi.1
  have h4 := hi.2
  have e := iv_bN8 ⟨x.toInt.toNat, by omega⟩ ⟨i.toInt.toNat, by omega⟩
  have e : ((x.toInt.toNat.toInt32 >>> (i.toInt.toNat.toInt32 &&& 31)) &&& 1).toInt = _ := e
  rw [iv_nIx hx (by decide), iv_nIx hi (by decide)] at e
  rw [hb, ha]
  exact e
theorem iv_bN5' {m S : Nat} (hm : m ≤ 8) (h : S = 2 ^ m - 1) : iv_pcb S = m := by
  rw [h]
  exact iv_bN5 ⟨m, by omega⟩
theorem iv_bN4' {m S i : Nat} (hm : m ≤ 8) (hS : S < 2 ^ m) (hi : i < m) : S ||| 2 ^ i < 2 ^ m := by
  have hp : 2 ^ m ≤ 2 ^ 8 := Nat.pow_le_pow_right (by decide) hm
  exact iv_bN4 ⟨m, by omega⟩ ⟨S, by omega⟩ ⟨i, by omega⟩ hi hS
theorem iv_bN3' {gp gw : Nat → Int32} {m S i L : Nat} (hm : m ≤ 8) (hS : S < 2 ^ m) (hi : i < m) (h : iv_CF gp gw i L S) : iv_pcb (S ||| 2 ^ i) = iv_pcb S + 1 := by
  have hp : 2 ^ m ≤ 2 ^ 8 := Nat.pow_le_pow_right (by decide) hm
  exact iv_bN3 ⟨S, by omega⟩ ⟨i, by omega⟩ h.1
set_option maxHeartbeats 4000000 in
set_option maxRecDepth 100000 in
theorem e_X12_count (l : Launch) (D : va_G) (tys : List (ClassId × FieldType)) (base : Nat) (G : iv_G) (x_0 : Int32) (i_x_0 : iv_R 0 1023 x_0) : Met l yX12_count (Cond.code yX12_count cX12_count 3 (some .int) :: iv_W0) ({ frames := 0, cells := 0, slots := 0, locals := 0 }) (iv_Pc iv_sh D classes tys base G [.int x_0]) (iv_Qi iv_sh D classes tys base (fun v G' => G = G' ∧ iv_R (-2147483648) 2147483647 v ∧ v.toInt = ((iv_pcn x_0.toInt.toNat 24 : Nat) : Int))) 0 0 (iv_A base) := by
  refine iv_head (by decide) (Nat.le_of_ble_eq_true rfl) ?_
  intro p e s m args below meth c ls X hr hlocks hname hB hl
  have X := X
  have hx := X.1.1
  have hb := X.1.2.1
  have hl : lv_has ls 3 [(0, .int x_0)] := hl
  refine lv_iconst (v := 0) hx hb dX12_count_0 (by decide) ?_
  refine lv_istore_n (lv' := [(1, .int 0), (0, .int x_0)]) hx hb dX12_count_1 rfl hl (by decide) rfl (fun ls hl => ?_)
  refine lv_iconst (v := 0) hx hb dX12_count_2 (by decide) ?_
  refine lv_istore_n (lv' := [(2, .int 0), (1, .int 0), (0, .int x_0)]) hx hb dX12_count_3 rfl hl (by decide) rfl (fun ls hl => ?_)
  have L_4 : ∀ (n_4 : Nat) (H : Heap) (locs : List Loc) (hB : iv_B iv_sh D classes tys base G s.heap H locs) (x1 : Int32) (i_x1 : iv_R (-2147483648) 2147483647 x1) (x2 : Int32) (i_x2 : iv_R 0 24 x2) (hn_4 : (25 - x2.toInt).toNat < n_4) (gi_4 : x1.toInt = ((iv_pcn x_0.toInt.toNat x2.toInt.toNat : Nat) : Int)) (ls : Array Slot) (hl : lv_has ls 3 [(2, .int x2), (1, .int x1), (0, .int x_0)]), W p l e ({ frames := 0, cells := 0, slots := 0, locals := 0 } : Room) s m args below meth c H locs 0 0 (MQ below (iv_Qi iv_sh D classes tys base (fun v G' => G = G' ∧ iv_R (-2147483648) 2147483647 v ∧ v.toInt = ((iv_pcn x_0.toInt.toNat 24 : Nat) : Int))) args s 0 0 (iv_A base)) (F0 m 4 ls []) := by
    intro n_4
    induction n_4 with
    | zero => intro H locs hB x1 i_x1 x2 i_x2 hn_4 gi_4 ls hl; exact absurd hn_4 (Nat.not_lt_zero _)
    | succ n_4 ih_4 =>
      intro H locs hB x1 i_x1 x2 i_x2 hn_4 gi_4 ls hl
      refine lv_iload_n hx hb dX12_count_4 rfl (lv_at hl 0 rfl) ?_
      refine lv_bipush (v := 24) hx hb dX12_count_5 (by decide) ?_
      refine lv_icmp_ge (tgt := 24) hx hb dX12_count_7 (by decide) (fun c3 => ?_) (fun c3 => ?_)
      · skip
        have i3_x2 : iv_R 24 24 x2 := (i_x2.cutLo (n := 24) (iv_le_l c3 q_24))
        refine lv_iload_n hx hb dX12_count_24 rfl (lv_at hl 1 rfl) ?_
        exact iv_iret X hr hlocks hB ⟨rfl, i_x1, (by have w1 := gi_4; rw [show x2.toInt.toNat = 24 from by have := i3_x2.1; have := i3_x2.2; omega] at w1; exact w1)⟩ dX12_count_25
      · skip
        have i4_x2 : iv_R 0 23 x2 := (i_x2.cutHi (n := 23) (iv_lt_r (iv_nle c3) q_24 (by decide)))
        refine lv_iload_n hx hb dX12_count_10 rfl (lv_at hl 1 rfl) ?_
        refine lv_iload_n hx hb dX12_count_11 rfl (lv_at hl 2 rfl) ?_
        refine lv_iload_n hx hb dX12_count_12 rfl (lv_at hl 0 rfl) ?_
        refine lv_ishr hx hb dX12_count_13 ?_
        refine lv_topi (fun x6 e_x6 => ?_)
        have i_x6 := iv_R.all x6
        refine lv_iconst (v := 1) hx hb dX12_count_14 (by decide) ?_
        refine iv_iand_r hx hb q_1 (by decide) dX12_count_15 (fun x7 e_x7 i_x7 => ?_)
        refine lv_iadd hx hb dX12_count_16 ?_
        refine lv_topi (fun x8 e_x8 => ?_)
        have i_x8 := iv_R.all x8
        refine lv_istore_n (lv' := [(1, .int x8), (2, .int x2), (0, .int x_0)]) hx hb dX12_count_17 rfl hl (by decide) rfl (fun ls hl => ?_)
        refine iv_iinc hx hb i4_x2 (lo := 1) (hi := 24) (by decide) dX12_count_18 hl (k := 1) rfl (by decide) (fun x9 ls e_x9 i_x9 hl => ?_)
        have hl : lv_has ls 3 [(2, .int x9), (1, .int x8), (0, .int x_0)] := hl
        refine lv_goto (tgt := 4) hx hb dX12_count_21 (by decide) ?_
        exact ih_4 _ _ hB x8 i_x8 x9 (i_x9.wk (by decide)) (iv_mup (c := 1) i_x2 (by decide) (by decide) (by omega) hn_4) (by have w1 := iv_bval i_x_0 i4_x2 e_x6 e_x7; have w2 := iv_pcn.le x_0.toInt.toNat x2.toInt.toNat; have w3 := i4_x2.1; have w4 := i4_x2.2; have w5 : x9.toInt.toNat = x2.toInt.toNat + 1 := (by have w6 : x9.toInt = x2.toInt + 1 := e_x9; omega); rw [w5]; show x8.toInt = ((iv_pcn x_0.toInt.toNat x2.toInt.toNat + x_0.toInt.toNat / 2 ^ x2.toInt.toNat % 2 : Nat) : Int); rw [e_x8, iv_ti_add (by omega) (by omega)]; omega) _ (lv_sub hl [0, 1, 2] rfl)
  exact L_4 _ _ _ hB 0 (q_0.wk (by decide)) 0 (q_0.wk (by decide)) (Nat.lt_succ_self _) (by have z0 : (0 : Int32).toInt = 0 := rfl; rw [z0]; rfl) _ (lv_sub hl [0, 1, 2] rfl)
theorem dX12_peals_0 : decode cX12_peals 0 = .ok (.iload_n 1, 1) := by decide +kernel
theorem dX12_peals_1 : decode cX12_peals 1 = .ok (.iconst 0, 1) := by decide +kernel
theorem dX12_peals_2 : decode cX12_peals 2 = .ok (.iconst 1, 1) := by decide +kernel
theorem dX12_peals_3 : decode cX12_peals 3 = .ok (.aload_n 0, 1) := by decide +kernel
theorem dX12_peals_4 : decode cX12_peals 4 = .ok (.getfield 7, 3) := by decide +kernel
theorem dX12_peals_7 : decode cX12_peals 7 = .ok (.sipush 146, 3) := by decide +kernel
theorem dX12_peals_10 : decode cX12_peals 10 = .ok (.iaload, 1) := by decide +kernel
theorem dX12_peals_11 : decode cX12_peals 11 = .ok (.ishl, 1) := by decide +kernel
theorem dX12_peals_12 : decode cX12_peals 12 = .ok (.iconst 1, 1) := by decide +kernel
theorem dX12_peals_13 : decode cX12_peals 13 = .ok (.isub, 1) := by decide +kernel
theorem dX12_peals_14 : decode cX12_peals 14 = .ok (.invokestatic 56, 3) := by decide +kernel
theorem dX12_peals_17 : decode cX12_peals 17 = .ok (.ifCond .eq 32, 3) := by decide +kernel
theorem dX12_peals_20 : decode cX12_peals 20 = .ok (.iload_n 1, 1) := by decide +kernel
theorem dX12_peals_21 : decode cX12_peals 21 = .ok (.invokestatic 320, 3) := by decide +kernel
theorem dX12_peals_24 : decode cX12_peals 24 = .ok (.bipush 8, 2) := by decide +kernel
theorem dX12_peals_26 : decode cX12_peals 26 = .ok (.if_icmp .gt 23, 3) := by decide +kernel
theorem dX12_peals_29 : decode cX12_peals 29 = .ok (.iload_n 2, 1) := by decide +kernel
theorem dX12_peals_30 : decode cX12_peals 30 = .ok (.ifCond .eq 21, 3) := by decide +kernel
theorem dX12_peals_33 : decode cX12_peals 33 = .ok (.iload_n 2, 1) := by decide +kernel
theorem dX12_peals_34 : decode cX12_peals 34 = .ok (.bipush 10, 2) := by decide +kernel
theorem dX12_peals_36 : decode cX12_peals 36 = .ok (.bipush 9, 2) := by decide +kernel
theorem dX12_peals_38 : decode cX12_peals 38 = .ok (.iload_n 1, 1) := by decide +kernel
theorem dX12_peals_39 : decode cX12_peals 39 = .ok (.invokestatic 320, 3) := by decide +kernel
theorem dX12_peals_42 : decode cX12_peals 42 = .ok (.iadd, 1) := by decide +kernel
theorem dX12_peals_43 : decode cX12_peals 43 = .ok (.invokestatic 56, 3) := by decide +kernel
theorem dX12_peals_46 : decode cX12_peals 46 = .ok (.ifCond .ne 5, 3) := by decide +kernel
theorem dX12_peals_49 : decode cX12_peals 49 = .ok (.iconst (-1), 1) := by decide +kernel
theorem dX12_peals_50 : decode cX12_peals 50 = .ok (.ireturn, 1) := by decide +kernel
theorem dX12_peals_51 : decode cX12_peals 51 = .ok (.aload_n 0, 1) := by decide +kernel
theorem dX12_peals_52 : decode cX12_peals 52 = .ok (.iconst 0, 1) := by decide +kernel
theorem dX12_peals_53 : decode cX12_peals 53 = .ok (.putfield 447, 3) := by decide +kernel
theorem dX12_peals_56 : decode cX12_peals 56 = .ok (.iconst 0, 1) := by decide +kernel
theorem dX12_peals_57 : decode cX12_peals 57 = .ok (.istore_n 3, 1) := by decide +kernel
theorem dX12_peals_58 : decode cX12_peals 58 = .ok (.iload_n 3, 1) := by decide +kernel
theorem dX12_peals_59 : decode cX12_peals 59 = .ok (.aload_n 0, 1) := by decide +kernel
theorem dX12_peals_60 : decode cX12_peals 60 = .ok (.getfield 7, 3) := by decide +kernel
theorem dX12_peals_63 : decode cX12_peals 63 = .ok (.sipush 146, 3) := by decide +kernel
theorem dX12_peals_66 : decode cX12_peals 66 = .ok (.iaload, 1) := by decide +kernel
theorem dX12_peals_67 : decode cX12_peals 67 = .ok (.if_icmp .ge 40, 3) := by decide +kernel
theorem dX12_peals_70 : decode cX12_peals 70 = .ok (.iload_n 1, 1) := by decide +kernel
theorem dX12_peals_71 : decode cX12_peals 71 = .ok (.iload_n 3, 1) := by decide +kernel
theorem dX12_peals_72 : decode cX12_peals 72 = .ok (.ishr, 1) := by decide +kernel
theorem dX12_peals_73 : decode cX12_peals 73 = .ok (.iconst 1, 1) := by decide +kernel
theorem dX12_peals_74 : decode cX12_peals 74 = .ok (.iand, 1) := by decide +kernel
theorem dX12_peals_75 : decode cX12_peals 75 = .ok (.ifCond .ne 6, 3) := by decide +kernel
theorem dX12_peals_78 : decode cX12_peals 78 = .ok (.goto 23, 3) := by decide +kernel
theorem dX12_peals_81 : decode cX12_peals 81 = .ok (.aload_n 0, 1) := by decide +kernel
theorem dX12_peals_82 : decode cX12_peals 82 = .ok (.getfield 50, 3) := by decide +kernel
theorem dX12_peals_85 : decode cX12_peals 85 = .ok (.aload_n 0, 1) := by decide +kernel
theorem dX12_peals_86 : decode cX12_peals 86 = .ok (.getfield 447, 3) := by decide +kernel
theorem dX12_peals_89 : decode cX12_peals 89 = .ok (.iload_n 3, 1) := by decide +kernel
theorem dX12_peals_90 : decode cX12_peals 90 = .ok (.iastore, 1) := by decide +kernel
theorem dX12_peals_91 : decode cX12_peals 91 = .ok (.aload_n 0, 1) := by decide +kernel
theorem dX12_peals_92 : decode cX12_peals 92 = .ok (.dup, 1) := by decide +kernel
theorem dX12_peals_93 : decode cX12_peals 93 = .ok (.getfield 447, 3) := by decide +kernel
theorem dX12_peals_96 : decode cX12_peals 96 = .ok (.iconst 1, 1) := by decide +kernel
theorem dX12_peals_97 : decode cX12_peals 97 = .ok (.iadd, 1) := by decide +kernel
theorem dX12_peals_98 : decode cX12_peals 98 = .ok (.putfield 447, 3) := by decide +kernel
theorem dX12_peals_101 : decode cX12_peals 101 = .ok (.iinc 3 1, 3) := by decide +kernel
theorem dX12_peals_104 : decode cX12_peals 104 = .ok (.goto (-46), 3) := by decide +kernel
theorem dX12_peals_107 : decode cX12_peals 107 = .ok (.aload_n 0, 1) := by decide +kernel
theorem dX12_peals_108 : decode cX12_peals 108 = .ok (.invokevirtual 453, 3) := by decide +kernel
theorem dX12_peals_111 : decode cX12_peals 111 = .ok (.iload_n 2, 1) := by decide +kernel
theorem dX12_peals_112 : decode cX12_peals 112 = .ok (.ifCond .ne 11, 3) := by decide +kernel
theorem dX12_peals_115 : decode cX12_peals 115 = .ok (.aload_n 0, 1) := by decide +kernel
theorem dX12_peals_116 : decode cX12_peals 116 = .ok (.getfield 53, 3) := by decide +kernel
theorem dX12_peals_119 : decode cX12_peals 119 = .ok (.bipush 8, 2) := by decide +kernel
theorem dX12_peals_121 : decode cX12_peals 121 = .ok (.iaload, 1) := by decide +kernel
theorem dX12_peals_122 : decode cX12_peals 122 = .ok (.ireturn, 1) := by decide +kernel
theorem dX12_peals_123 : decode cX12_peals 123 = .ok (.aload_n 0, 1) := by decide +kernel
theorem dX12_peals_124 : decode cX12_peals 124 = .ok (.getfield 53, 3) := by decide +kernel
theorem dX12_peals_127 : decode cX12_peals 127 = .ok (.bipush 8, 2) := by decide +kernel
theorem dX12_peals_129 : decode cX12_peals 129 = .ok (.iaload, 1) := by decide +kernel
theorem dX12_peals_130 : decode cX12_peals 130 = .ok (.ifCond .ne 5, 3) := by decide +kernel
theorem dX12_peals_133 : decode cX12_peals 133 = .ok (.iconst (-1), 1) := by decide +kernel
theorem dX12_peals_134 : decode cX12_peals 134 = .ok (.ireturn, 1) := by decide +kernel
theorem dX12_peals_135 : decode cX12_peals 135 = .ok (.iconst 0, 1) := by decide +kernel
theorem dX12_peals_136 : decode cX12_peals 136 = .ok (.istore_n 3, 1) := by decide +kernel
theorem dX12_peals_137 : decode cX12_peals 137 = .ok (.bipush 8, 2) := by decide +kernel
theorem dX12_peals_139 : decode cX12_peals 139 = .ok (.istore 4, 2) := by decide +kernel
theorem dX12_peals_141 : decode cX12_peals 141 = .ok (.bipush 10, 2) := by decide +kernel
theorem dX12_peals_143 : decode cX12_peals 143 = .ok (.istore 5, 2) := by decide +kernel
theorem dX12_peals_145 : decode cX12_peals 145 = .ok (.iload 5, 2) := by decide +kernel
theorem dX12_peals_147 : decode cX12_peals 147 = .ok (.iload_n 2, 1) := by decide +kernel
theorem dX12_peals_148 : decode cX12_peals 148 = .ok (.if_icmp .gt 61, 3) := by decide +kernel
theorem dX12_peals_151 : decode cX12_peals 151 = .ok (.iconst 0, 1) := by decide +kernel
theorem dX12_peals_152 : decode cX12_peals 152 = .ok (.istore 6, 2) := by decide +kernel
theorem dX12_peals_154 : decode cX12_peals 154 = .ok (.aload_n 0, 1) := by decide +kernel
theorem dX12_peals_155 : decode cX12_peals 155 = .ok (.iload 6, 2) := by decide +kernel
theorem dX12_peals_157 : decode cX12_peals 157 = .ok (.iload 4, 2) := by decide +kernel
theorem dX12_peals_159 : decode cX12_peals 159 = .ok (.iload_n 3, 1) := by decide +kernel
theorem dX12_peals_160 : decode cX12_peals 160 = .ok (.invokevirtual 450, 3) := by decide +kernel
theorem dX12_peals_163 : decode cX12_peals 163 = .ok (.ifCond .eq 23, 3) := by decide +kernel
theorem dX12_peals_166 : decode cX12_peals 166 = .ok (.aload_n 0, 1) := by decide +kernel
theorem dX12_peals_167 : decode cX12_peals 167 = .ok (.getfield 53, 3) := by decide +kernel
theorem dX12_peals_170 : decode cX12_peals 170 = .ok (.bipush 9, 2) := by decide +kernel
theorem dX12_peals_172 : decode cX12_peals 172 = .ok (.iload_n 3, 1) := by decide +kernel
theorem dX12_peals_173 : decode cX12_peals 173 = .ok (.iconst 1, 1) := by decide +kernel
theorem dX12_peals_174 : decode cX12_peals 174 = .ok (.iload 6, 2) := by decide +kernel
theorem dX12_peals_176 : decode cX12_peals 176 = .ok (.ishl, 1) := by decide +kernel
theorem dX12_peals_177 : decode cX12_peals 177 = .ok (.ior, 1) := by decide +kernel
theorem dX12_peals_178 : decode cX12_peals 178 = .ok (.imul, 1) := by decide +kernel
theorem dX12_peals_179 : decode cX12_peals 179 = .ok (.iload 6, 2) := by decide +kernel
theorem dX12_peals_181 : decode cX12_peals 181 = .ok (.iadd, 1) := by decide +kernel
theorem dX12_peals_182 : decode cX12_peals 182 = .ok (.iaload, 1) := by decide +kernel
theorem dX12_peals_183 : decode cX12_peals 183 = .ok (.ifCond .ne 9, 3) := by decide +kernel
theorem dX12_peals_186 : decode cX12_peals 186 = .ok (.iinc 6 1, 3) := by decide +kernel
theorem dX12_peals_189 : decode cX12_peals 189 = .ok (.goto (-35), 3) := by decide +kernel
theorem dX12_peals_192 : decode cX12_peals 192 = .ok (.iload_n 3, 1) := by decide +kernel
theorem dX12_peals_193 : decode cX12_peals 193 = .ok (.iconst 1, 1) := by decide +kernel
theorem dX12_peals_194 : decode cX12_peals 194 = .ok (.iload 6, 2) := by decide +kernel
theorem dX12_peals_196 : decode cX12_peals 196 = .ok (.ishl, 1) := by decide +kernel
theorem dX12_peals_197 : decode cX12_peals 197 = .ok (.ior, 1) := by decide +kernel
theorem dX12_peals_198 : decode cX12_peals 198 = .ok (.istore_n 3, 1) := by decide +kernel
theorem dX12_peals_199 : decode cX12_peals 199 = .ok (.iload 6, 2) := by decide +kernel
theorem dX12_peals_201 : decode cX12_peals 201 = .ok (.istore 4, 2) := by decide +kernel
theorem dX12_peals_203 : decode cX12_peals 203 = .ok (.iinc 5 1, 3) := by decide +kernel
theorem dX12_peals_206 : decode cX12_peals 206 = .ok (.goto (-61), 3) := by decide +kernel
theorem dX12_peals_209 : decode cX12_peals 209 = .ok (.aload_n 0, 1) := by decide +kernel
theorem dX12_peals_210 : decode cX12_peals 210 = .ok (.getfield 50, 3) := by decide +kernel
theorem dX12_peals_213 : decode cX12_peals 213 = .ok (.iload 4, 2) := by decide +kernel
theorem dX12_peals_215 : decode cX12_peals 215 = .ok (.iaload, 1) := by decide +kernel
theorem dX12_peals_216 : decode cX12_peals 216 = .ok (.ireturn, 1) := by decide +kernel
set_option maxHeartbeats 4000000 in
set_option maxRecDepth 100000 in
theorem c_X12_peals (l : Launch) (D : va_G) (tys : List (ClassId × FieldType)) (base : Nat) (G : iv_G) (h0 : Nat) (g_h0 : Nat → Int32) (r_h0 : Nat → Nat) (a_h0 : G h0 = some (12, g_h0, r_h0)) (x_0 : Int32) (i_x_0 : iv_R (-2147483648) 2147483647 x_0) (x_1 : Int32) (i_x_1 : iv_R (-2147483648) 2147483647 x_1) : Met l yX12_peals (Cond.code yX12_peals cX12_peals 7 (some .int) :: iv_W0) ({ frames := 3, cells := 0, slots := 0, locals := 70 }) (iv_Pc iv_sh D classes tys base G [.ref h0, .int x_0, .int x_1]) (iv_Qi iv_sh D classes tys base (fun v G' => iv_Md [12, 72, 73] G G' ∧ iv_R (-2147483648) 2147483647 v)) 0 0 (iv_A base) := by
  refine iv_head (by decide) (Nat.le_of_ble_eq_true rfl) ?_
  intro p e s m args below meth c ls X hr hlocks hname hB hl
  have X := X
  have hx := X.1.1
  have hb := X.1.2.1
  have hM : iv_Md [12, 72, 73] G G := iv_Md.rf
  have a_st := a_h0
  obtain ⟨gw, r_gw, h_gw⟩ := iv_getw hB a_h0
  have hl : lv_has ls 7 [(0, .ref h0), (1, .int x_0), (2, .int x_1)] := hl
  refine lv_iload_n hx hb dX12_peals_0 rfl (lv_at hl 1 rfl) ?_
  refine lv_iconst (v := 0) hx hb dX12_peals_1 (by decide) ?_
  refine lv_iconst (v := 1) hx hb dX12_peals_2 (by decide) ?_
  refine lv_aload_n hx hb dX12_peals_3 rfl (lv_at hl 0 rfl) ?_
  refine iv_getr0 X ft_X12 hB a_h0 sh_12 0 (by decide) rfl k_fl_X12_7 dX12_peals_4 (rfl : r_h0 0 = r_h0 0) ?_
  refine lv_sipush (v := 146) hx hb dX12_peals_7 (by decide) ?_
  refine iv_wald_c X hB h_gw q_146 (by decide) (lo := 0) (hi' := 10) (by decide) dX12_peals_10 (fun x1 e_x1 i_x1 => ?_)
  refine iv_shl1 hx hb i_x1 (lo := 1) (hi := 1024) (by decide) dX12_peals_11 (fun x2 e_x2 i_x2 => ?_)
  refine lv_iconst (v := 1) hx hb dX12_peals_12 (by decide) ?_
  refine iv_isub hx hb i_x2 q_1 (lo := 0) (hi := 1023) (by decide) dX12_peals_13 (fun x3 e_x3 i_x3 => ?_)
  refine iv_cSi X k_good k_mf_X12_isIn k_st_X12_isIn k_ml_X12_56 hB (As := [.int x_0, .int 0, .int x3]) (c_X12_isIn l D tys base G x_0 i_x_0 0 (q_0.wk (by decide)) x3 (i_x3.wk (by decide))) ⟨rfl, rfl⟩ ⟨Nat.le_of_ble_eq_true rfl, Nat.le_of_ble_eq_true rfl⟩ ⟨Nat.le_of_ble_eq_true rfl, Nat.le_of_ble_eq_true rfl⟩ rfl rfl hl.1 (Nat.le_of_ble_eq_true rfl) dX12_peals_14 (fun x4 G9 H locs hq hB => ?_)
  obtain ⟨rfl, i_x4, hp5⟩ := hq
  have k6 : ¬ x4 = 0 → iv_R 0 1023 x_0 := fun h => ⟨iv_max i_x_0.1 (Int.le_trans q_0.1 (hp5.1 h).1) (by decide), iv_min i_x_0.2 (Int.le_trans (hp5.1 h).2 i_x3.2) (by decide)⟩
  refine lv_if_eq (tgt := 49) hx hb dX12_peals_17 (by decide) (fun c7 => ?_) (fun c7 => ?_)
  · skip
    have i7_x4 : iv_R 0 0 x4 := (i_x4.cutHi (n := 0) (iv_eq_r c7 q_0).2)
    refine lv_iconst (v := (-1)) hx hb dX12_peals_49 (by decide) ?_
    exact iv_iret X hr hlocks hB ⟨hM, (q_n1.wk (by decide))⟩ dX12_peals_50
  · skip
    have i8_x4 : iv_R 1 1 x4 := iv_ne_lo c7 i_x4 q_0 (by decide)
    have i9_x_0 : iv_R 0 1023 x_0 := ((i_x_0.cutLo (n := 0) (k6 c7).1).cutHi (n := 1023) (k6 c7).2)
    refine lv_iload_n hx hb dX12_peals_20 rfl (lv_at hl 1 rfl) ?_
    refine iv_cSi X k_good k_mf_X12_count k_st_X12_count k_ml_X12_320 hB (As := [.int x_0]) (e_X12_count l D tys base G x_0 i9_x_0) ⟨rfl, rfl⟩ ⟨Nat.le_of_ble_eq_true rfl, Nat.le_of_ble_eq_true rfl⟩ ⟨Nat.le_of_ble_eq_true rfl, Nat.le_of_ble_eq_true rfl⟩ rfl rfl hl.1 (Nat.le_of_ble_eq_true rfl) dX12_peals_21 (fun x11 G9 H locs hq hB => ?_)
    obtain ⟨rfl, i_x11, xp12⟩ := hq
    have i12_x11 : iv_R 0 24 x11 := ⟨by have w1 := xp12; omega, by have w1 := xp12; have w2 := iv_pcn.le x_0.toInt.toNat 24; omega⟩
    refine lv_bipush (v := 8) hx hb dX12_peals_24 (by decide) ?_
    refine lv_icmp_gt (tgt := 49) hx hb dX12_peals_26 (by decide) (fun c14 => ?_) (fun c14 => ?_)
    · skip
      have i14_x11 : iv_R 9 24 x11 := (i12_x11.cutLo (n := 9) (iv_lt_l c14 q_8 (by decide)))
      refine lv_iconst (v := (-1)) hx hb dX12_peals_49 (by decide) ?_
      exact iv_iret X hr hlocks hB ⟨hM, (q_n1.wk (by decide))⟩ dX12_peals_50
    · skip
      have i15_x11 : iv_R 0 8 x11 := (i12_x11.cutHi (n := 8) (iv_le_r (iv_nlt c14) q_8))
      refine lv_iload_n hx hb dX12_peals_29 rfl (lv_at hl 2 rfl) ?_
      refine lv_if_eq (tgt := 51) hx hb dX12_peals_30 (by decide) (fun c17 => ?_) (fun c17 => ?_)
      · skip
        have i17_x_1 : iv_R 0 0 x_1 := ((i_x_1.cutLo (n := 0) (iv_eq_r c17 q_0).1).cutHi (n := 0) (iv_eq_r c17 q_0).2)
        refine lv_aload_n hx hb dX12_peals_51 rfl (lv_at hl 0 rfl) ?_
        refine lv_iconst (v := 0) hx hb dX12_peals_52 (by decide) ?_
        refine iv_puti X ft_X12 hB a_h0 sh_12 31 (by decide) rfl rfl k_fl_X12_447 rfl (q_0.wk (by decide)) rfl rfl dX12_peals_53 (fun H locs hB => ?_)
        have hm := iv_Md.put (x := 0) a_h0 (j := 31) (by decide) (by decide)
        have h9 := iv_up_eq (G := G) (a := h0) (k := (12, upd g_h0 31 0, r_h0))
        generalize iv_up G h0 _ = G19 at hB hm h9
        have hM := hM.stp hm (by decide)
        generalize hgn_g20 : upd g_h0 _ _ = g20 at h9
        have h_gw := hm.at h_gw (by decide)
        have a_h0 := h9
        have e9_g20 : 0 = g20 31 := by rw [← hgn_g20]; simp [upd]
        refine lv_iconst (v := 0) hx hb dX12_peals_56 (by decide) ?_
        refine lv_istore_n (lv' := [(3, .int 0), (0, .ref h0), (1, .int x_0), (2, .int x_1)]) hx hb dX12_peals_57 rfl hl (by decide) rfl (fun ls hl => ?_)
        have L_58 : ∀ (n_58 : Nat) (G24 : iv_G) (hM : iv_Md [12, 72, 73] G G24) (H : Heap) (locs : List Loc) (hB : iv_B iv_sh D classes tys base G24 s.heap H locs) (h_gw : G24 (r_h0 0) = some (60, gw, r_gw)) (g22 : Nat → Int32) (r23 : Nat → Nat) (a_h0 : G24 h0 = some (12, g22, r23)) (x21 : Int32) (i_x21 : iv_R 0 10 x21) (hn_58 : (11 - x21.toInt).toNat < n_58) (gi_58 : (g22 31).toInt = ((iv_pcn x_0.toInt.toNat x21.toInt.toNat : Nat) : Int)) (ls : Array Slot) (hl : lv_has ls 7 [(3, .int x21), (0, .ref h0), (1, .int x_0), (2, .int x_1)]), W p l e ({ frames := 3, cells := 0, slots := 0, locals := 70 } : Room) s m args below meth c H locs 0 0 (MQ below (iv_Qi iv_sh D classes tys base (fun v G' => iv_Md [12, 72, 73] G G' ∧ iv_R (-2147483648) 2147483647 v)) args s 0 0 (iv_A base)) (F0 m 58 ls []) := by
          intro n_58
          induction n_58 with
          | zero => intro G24 hM H locs hB h_gw g22 r23 a_h0 x21 i_x21 hn_58 gi_58 ls hl; exact absurd hn_58 (Nat.not_lt_zero _)
          | succ n_58 ih_58 =>
            intro G24 hM H locs hB h_gw g22 r23 a_h0 x21 i_x21 hn_58 gi_58 ls hl
            have er : r23 = r_h0 := iv_refs (iv_MdT.of hM) a_st a_h0
            refine lv_iload_n hx hb dX12_peals_58 rfl (lv_at hl 0 rfl) ?_
            refine lv_aload_n hx hb dX12_peals_59 rfl (lv_at hl 1 rfl) ?_
            refine iv_getr0 X ft_X12 hB a_h0 sh_12 0 (by decide) rfl k_fl_X12_7 dX12_peals_60 (congrFun er 0).symm ?_
            refine lv_sipush (v := 146) hx hb dX12_peals_63 (by decide) ?_
            refine iv_wald_c X hB h_gw q_146 (by decide) (lo := 0) (hi' := 10) (by decide) dX12_peals_66 (fun x25 e_x25 k_x25 => ?_)
            obtain rfl : x1 = x25 := e_x1.trans e_x25.symm
            refine lv_icmp_ge (tgt := 107) hx hb dX12_peals_67 (by decide) (fun c26 => ?_) (fun c26 => ?_)
            · skip
              obtain ⟨gp, rp, h_gp⟩ := iv_got12_29 hB a_h0
              rw [er] at h_gp
              have hset : x_0.toInt.toNat < 2 ^ x21.toInt.toNat := by
                have w1 := (hp5.1 c7).2
                have w2 : x3.toInt = x2.toInt - (1 : Int32).toInt := e_x3
                have w3 : (1 : Int32).toInt = 1 := rfl
                have w4 : x2.toInt = ((2 ^ x1.toInt.toNat : Nat) : Int) := by rw [e_x2]; exact (Int.natCast_pow 2 _).symm
                have w5 : x1.toInt.toNat ≤ x21.toInt.toNat := by have w6 := Int32.le_iff_toInt_le.mp c26; omega
                have w7 : 2 ^ x1.toInt.toNat ≤ 2 ^ x21.toInt.toNat := Nat.pow_le_pow_right (by decide) w5
                have w8 := i9_x_0.1
                omega
              have htop := iv_pcn.top hset (24 - x21.toInt.toNat)
              rw [show x21.toInt.toNat + (24 - x21.toInt.toNat) = 24 from by have := i_x21.1; have := i_x21.2; omega] at htop
              obtain ⟨m0, hm0⟩ : ∃ m0, m0 = (g22 31).toInt.toNat := ⟨_, rfl⟩
              have hmc : x11.toInt = (m0 : Int) := by have w1 := xp12; have w2 := gi_58; omega
              have hm8 : m0 ≤ 8 := by have := i15_x11.2; omega
              have hp1 := Nat.one_le_two_pow (n := m0)
              refine lv_aload_n hx hb dX12_peals_107 rfl (lv_at hl 1 rfl) ?_
              refine iv_cVv X k_good k_mf_X12_laysPeals k_im_X12_laysPeals k_sel_X12_laysPeals k_ml_X12_453 ft_X12 hB a_h0 sh_12 (As := []) (e_X12_laysPeals l D tys base G24 h0 g22 r23 a_h0 gw r_gw (by rw [er]; exact h_gw) gp rp (by rw [er]; exact h_gp)) ⟨rfl, rfl⟩ ⟨Nat.le_of_ble_eq_true rfl, Nat.le_of_ble_eq_true rfl⟩ ⟨Nat.le_of_ble_eq_true rfl, Nat.le_of_ble_eq_true rfl⟩ rfl rfl hl.1 (Nat.le_of_ble_eq_true rfl) dX12_peals_108 (fun G9 H locs hq hB => ?_)
              obtain ⟨hm, xp27⟩ := hq
              obtain ⟨G28, hG9⟩ : ∃ g, g = G9 := ⟨_, rfl⟩
              rw [← hG9] at hm hB xp27
              have hM := hM.stp hm (by decide)
              have h_gw := hm.at h_gw (by decide)
              have a_h0 := hm.at a_h0 (by decide)
              have h_gp := hm.at h_gp (by decide)
              obtain ⟨go, qo, t_go, P1⟩ := xp27
              rw [← hm0] at P1
              rw [er] at t_go
              refine lv_iload_n hx hb dX12_peals_111 rfl (lv_at hl 3 rfl) ?_
              refine lv_if_ne (tgt := 123) hx hb dX12_peals_112 (by decide) (fun c29 => ?_) (fun c29 => ?_)
              · skip
                exact (iv_ne_lo c29 i17_x_1 q_0 (a' := 1) (by decide)).no (by decide)
              · skip
                refine lv_aload_n hx hb dX12_peals_115 rfl (lv_at hl 1 rfl) ?_
                refine iv_getr X ft_X12 hB a_h0 sh_12 30 (by decide) rfl k_fl_X12_53 dX12_peals_116 (fun b30 g_b30 r_b30 e_b30 a_b30 => ?_)
                refine lv_bipush (v := 8) hx hb dX12_peals_119 (by decide) ?_
                refine iv_ald X hB a_b30 sh_73 (iv_in q_8 (by decide)) dX12_peals_121 (fun x31 e_x31 i_x31 => ?_)
                exact iv_iret X hr hlocks hB ⟨hM, i_x31⟩ dX12_peals_122
            · skip
              have i31_x21 : iv_R 0 9 x21 := (i_x21.cutHi (n := 9) (iv_lt_r (iv_nle c26) i_x1 (by decide)))
              have i32_x1 : iv_R 1 10 x1 := (i_x1.cutLo (n := 1) (iv_lt_l (iv_nle c26) i_x21 (by decide)))
              refine lv_iload_n hx hb dX12_peals_70 rfl (lv_at hl 2 rfl) ?_
              refine lv_iload_n hx hb dX12_peals_71 rfl (lv_at hl 0 rfl) ?_
              refine lv_ishr hx hb dX12_peals_72 ?_
              refine lv_topi (fun x34 e_x34 => ?_)
              have i_x34 := iv_R.all x34
              refine lv_iconst (v := 1) hx hb dX12_peals_73 (by decide) ?_
              refine iv_iand_r hx hb q_1 (by decide) dX12_peals_74 (fun x35 e_x35 i_x35 => ?_)
              refine lv_if_ne (tgt := 81) hx hb dX12_peals_75 (by decide) (fun c36 => ?_) (fun c36 => ?_)
              · skip
                have i36_x35 : iv_R 1 1 x35 := iv_ne_lo c36 i_x35 q_0 (by decide)
                refine lv_aload_n hx hb dX12_peals_81 rfl (lv_at hl 1 rfl) ?_
                refine iv_getr X ft_X12 hB a_h0 sh_12 29 (by decide) rfl k_fl_X12_50 dX12_peals_82 (fun b38 g_b38 r_b38 e_b38 a_b38 => ?_)
                refine lv_aload_n hx hb dX12_peals_85 rfl (lv_at hl 1 rfl) ?_
                refine iv_geti X ft_X12 hB a_h0 sh_12 31 (by decide) rfl k_fl_X12_447 dX12_peals_86 (fun x39 e_x39 i_x39 => ?_)
                have pbit := iv_bval i9_x_0 (i31_x21.wk (by decide)) e_x34 e_x35
                have pone : x_0.toInt.toNat / 2 ^ x21.toInt.toNat % 2 = 1 := by have w1 : ¬ x35.toInt = 0 := fun q => c36 (Int32.toInt_inj.mp q); omega
                have pup : iv_pcn x_0.toInt.toNat (x21.toInt.toNat + 1) = iv_pcn x_0.toInt.toNat x21.toInt.toNat + 1 := by show _ + _ = _; rw [pone]
                have pmo := iv_pcn.mono x_0.toInt.toNat (n := x21.toInt.toNat + 1) (23 - x21.toInt.toNat)
                rw [show x21.toInt.toNat + 1 + (23 - x21.toInt.toNat) = 24 from by have := i31_x21.1; have := i31_x21.2; omega] at pmo
                have px : x39.toInt = ((iv_pcn x_0.toInt.toNat x21.toInt.toNat : Nat) : Int) := (congrArg Int32.toInt e_x39).trans gi_58
                have i39_x39 : iv_R 0 7 x39 := ⟨by omega, by have w1 := xp12; have w2 := i15_x11.2; omega⟩
                refine lv_iload_n hx hb dX12_peals_89 rfl (lv_at hl 0 rfl) ?_
                refine iv_ast X hB a_b38 sh_72 (iv_in i39_x39 (by decide)) i31_x21 dX12_peals_90 (fun H locs hB => ?_)
                have hm := iv_Md.ast (j := x39.toNatClampNeg) (x := x21) a_b38 rfl (by decide)
                have h9 := iv_up_eq (G := G24) (a := b38) (k := (72, upd g_b38 x39.toNatClampNeg x21, r_b38))
                generalize iv_up G24 b38 _ = G41 at hB hm h9
                have hM := hM.stp hm (by decide)
                have h_gw := hm.at h_gw (by decide)
                have a_h0 := hm.at a_h0 (by decide)
                refine lv_aload_n hx hb dX12_peals_91 rfl (lv_at hl 1 rfl) ?_
                refine lv_dup hx hb dX12_peals_92 rfl ?_
                refine iv_geti0 X ft_X12 hB a_h0 sh_12 31 (by decide) rfl k_fl_X12_447 dX12_peals_93 e_x39 ?_
                refine lv_iconst (v := 1) hx hb dX12_peals_96 (by decide) ?_
                refine iv_iadd hx hb i39_x39 q_1 (lo := 1) (hi := 8) (by decide) dX12_peals_97 (fun x43 e_x43 i_x43 => ?_)
                refine iv_puti X ft_X12 hB a_h0 sh_12 31 (by decide) rfl rfl k_fl_X12_447 rfl (i_x43.wk (by decide)) rfl rfl dX12_peals_98 (fun H locs hB => ?_)
                have hm := iv_Md.put (x := x43) a_h0 (j := 31) (by decide) (by decide)
                have h9 := iv_up_eq (G := G41) (a := h0) (k := (12, upd g22 31 x43, r23))
                generalize iv_up G41 h0 _ = G44 at hB hm h9
                have hM := hM.stp hm (by decide)
                generalize hgn_g45 : upd g22 _ _ = g45 at h9
                have h_gw := hm.at h_gw (by decide)
                have a_h0 := h9
                have e9_g45 : x43 = g45 31 := by rw [← hgn_g45]; simp [upd]
                refine iv_iinc hx hb i31_x21 (lo := 1) (hi := 10) (by decide) dX12_peals_101 hl (k := 0) rfl (by decide) (fun x46 ls e_x46 i_x46 hl => ?_)
                have hl : lv_has ls 7 [(3, .int x46), (0, .ref h0), (1, .int x_0), (2, .int x_1)] := hl
                refine lv_goto (tgt := 58) hx hb dX12_peals_104 (by decide) ?_
                exact ih_58 G44 hM _ _ hB h_gw g45 r23 a_h0 x46 (i_x46.wk (by decide)) (iv_mup (c := 1) i_x21 (by decide) (by decide) (by omega) hn_58) (by have w1 := congrArg Int32.toInt e9_g45; have w2 : x43.toInt = x39.toInt + 1 := e_x43; have w5 : x46.toInt.toNat = x21.toInt.toNat + 1 := (by have w6 : x46.toInt = x21.toInt + 1 := e_x46; have w7 := i31_x21.1; omega); rw [w5]; rw [pup]; omega) _ (lv_sub hl [0, 1, 2, 3] rfl)
              · skip
                have i46_x35 : iv_R 0 0 x35 := (i_x35.cutHi (n := 0) (iv_eq_r c36 q_0).2)
                refine lv_goto (tgt := 101) hx hb dX12_peals_78 (by decide) ?_
                refine iv_iinc hx hb i31_x21 (lo := 1) (hi := 10) (by decide) dX12_peals_101 hl (k := 0) rfl (by decide) (fun x48 ls e_x48 i_x48 hl => ?_)
                have hl : lv_has ls 7 [(3, .int x48), (0, .ref h0), (1, .int x_0), (2, .int x_1)] := hl
                refine lv_goto (tgt := 58) hx hb dX12_peals_104 (by decide) ?_
                exact ih_58 G24 hM _ _ hB h_gw g22 r23 a_h0 x48 (i_x48.wk (by decide)) (iv_mup (c := 1) i_x21 (by decide) (by decide) (by omega) hn_58) (by have w1 := iv_bval i9_x_0 (i31_x21.wk (by decide)) e_x34 e_x35; have w2 : x35.toInt = 0 := congrArg Int32.toInt (show x35 = 0 by assumption); have w5 : x48.toInt.toNat = x21.toInt.toNat + 1 := (by have w6 : x48.toInt = x21.toInt + 1 := e_x48; have w7 := i31_x21.1; omega); rw [w5]; show _ = ((_ + x_0.toInt.toNat / 2 ^ x21.toInt.toNat % 2 : Nat) : Int); rw [show x_0.toInt.toNat / 2 ^ x21.toInt.toNat % 2 = 0 from by omega]; exact gi_58) _ (lv_sub hl [0, 1, 2, 3] rfl)
        exact L_58 _ G19 hM _ _ hB h_gw g20 r_h0 a_h0 0 (q_0.wk (by decide)) (Nat.lt_succ_self _) (by have z0 : (0 : Int32).toInt = 0 := rfl; rw [← e9_g20, z0]; rfl) _ (lv_sub hl [0, 1, 2, 3] rfl)
      · skip
        refine lv_iload_n hx hb dX12_peals_33 rfl (lv_at hl 2 rfl) ?_
        refine lv_bipush (v := 10) hx hb dX12_peals_34 (by decide) ?_
        refine lv_bipush (v := 9) hx hb dX12_peals_36 (by decide) ?_
        refine lv_iload_n hx hb dX12_peals_38 rfl (lv_at hl 1 rfl) ?_
        refine iv_cSi X k_good k_mf_X12_count k_st_X12_count k_ml_X12_320 hB (As := [.int x_0]) (e_X12_count l D tys base G x_0 i9_x_0) ⟨rfl, rfl⟩ ⟨Nat.le_of_ble_eq_true rfl, Nat.le_of_ble_eq_true rfl⟩ ⟨Nat.le_of_ble_eq_true rfl, Nat.le_of_ble_eq_true rfl⟩ rfl rfl hl.1 (Nat.le_of_ble_eq_true rfl) dX12_peals_39 (fun x49 G9 H locs hq hB => ?_)
        obtain ⟨rfl, i_x49, xp50⟩ := hq
        have i50_x49 : iv_R 0 24 x49 := ⟨by have w1 := xp50; omega, by have w1 := xp50; have w2 := iv_pcn.le x_0.toInt.toNat 24; omega⟩
        refine iv_iadd hx hb q_9 i50_x49 (lo := 9) (hi := 33) (by decide) dX12_peals_42 (fun x52 e_x52 i_x52 => ?_)
        refine iv_cSi X k_good k_mf_X12_isIn k_st_X12_isIn k_ml_X12_56 hB (As := [.int x_1, .int 10, .int x52]) (c_X12_isIn l D tys base G x_1 i_x_1 10 (q_10.wk (by decide)) x52 (i_x52.wk (by decide))) ⟨rfl, rfl⟩ ⟨Nat.le_of_ble_eq_true rfl, Nat.le_of_ble_eq_true rfl⟩ ⟨Nat.le_of_ble_eq_true rfl, Nat.le_of_ble_eq_true rfl⟩ rfl rfl hl.1 (Nat.le_of_ble_eq_true rfl) dX12_peals_43 (fun x53 G9 H locs hq hB => ?_)
        obtain ⟨rfl, i_x53, hp54⟩ := hq
        have k55 : ¬ x53 = 0 → iv_R 10 33 x_1 := fun h => ⟨iv_max i_x_1.1 (Int.le_trans q_10.1 (hp54.1 h).1) (by decide), iv_min i_x_1.2 (Int.le_trans (hp54.1 h).2 i_x52.2) (by decide)⟩
        refine lv_if_ne (tgt := 51) hx hb dX12_peals_46 (by decide) (fun c56 => ?_) (fun c56 => ?_)
        · skip
          have i56_x53 : iv_R 1 1 x53 := iv_ne_lo c56 i_x53 q_0 (by decide)
          have i57_x_1 : iv_R 10 33 x_1 := ((i_x_1.cutLo (n := 10) (k55 c56).1).cutHi (n := 33) (k55 c56).2)
          refine lv_aload_n hx hb dX12_peals_51 rfl (lv_at hl 0 rfl) ?_
          refine lv_iconst (v := 0) hx hb dX12_peals_52 (by decide) ?_
          refine iv_puti X ft_X12 hB a_h0 sh_12 31 (by decide) rfl rfl k_fl_X12_447 rfl (q_0.wk (by decide)) rfl rfl dX12_peals_53 (fun H locs hB => ?_)
          have hm := iv_Md.put (x := 0) a_h0 (j := 31) (by decide) (by decide)
          have h9 := iv_up_eq (G := G) (a := h0) (k := (12, upd g_h0 31 0, r_h0))
          generalize iv_up G h0 _ = G59 at hB hm h9
          have hM := hM.stp hm (by decide)
          generalize hgn_g60 : upd g_h0 _ _ = g60 at h9
          have h_gw := hm.at h_gw (by decide)
          have a_h0 := h9
          have e9_g60 : 0 = g60 31 := by rw [← hgn_g60]; simp [upd]
          refine lv_iconst (v := 0) hx hb dX12_peals_56 (by decide) ?_
          refine lv_istore_n (lv' := [(3, .int 0), (0, .ref h0), (1, .int x_0), (2, .int x_1)]) hx hb dX12_peals_57 rfl hl (by decide) rfl (fun ls hl => ?_)
          have L_58 : ∀ (n_58 : Nat) (G64 : iv_G) (hM : iv_Md [12, 72, 73] G G64) (H : Heap) (locs : List Loc) (hB : iv_B iv_sh D classes tys base G64 s.heap H locs) (h_gw : G64 (r_h0 0) = some (60, gw, r_gw)) (g62 : Nat → Int32) (r63 : Nat → Nat) (a_h0 : G64 h0 = some (12, g62, r63)) (x61 : Int32) (i_x61 : iv_R 0 10 x61) (hn_58 : (11 - x61.toInt).toNat < n_58) (gi_58 : (g62 31).toInt = ((iv_pcn x_0.toInt.toNat x61.toInt.toNat : Nat) : Int)) (ls : Array Slot) (hl : lv_has ls 7 [(3, .int x61), (0, .ref h0), (1, .int x_0), (2, .int x_1)]), W p l e ({ frames := 3, cells := 0, slots := 0, locals := 70 } : Room) s m args below meth c H locs 0 0 (MQ below (iv_Qi iv_sh D classes tys base (fun v G' => iv_Md [12, 72, 73] G G' ∧ iv_R (-2147483648) 2147483647 v)) args s 0 0 (iv_A base)) (F0 m 58 ls []) := by
            intro n_58
            induction n_58 with
            | zero => intro G64 hM H locs hB h_gw g62 r63 a_h0 x61 i_x61 hn_58 gi_58 ls hl; exact absurd hn_58 (Nat.not_lt_zero _)
            | succ n_58 ih_58 =>
              intro G64 hM H locs hB h_gw g62 r63 a_h0 x61 i_x61 hn_58 gi_58 ls hl
              have er : r63 = r_h0 := iv_refs (iv_MdT.of hM) a_st a_h0
              refine lv_iload_n hx hb dX12_peals_58 rfl (lv_at hl 0 rfl) ?_
              refine lv_aload_n hx hb dX12_peals_59 rfl (lv_at hl 1 rfl) ?_
              refine iv_getr0 X ft_X12 hB a_h0 sh_12 0 (by decide) rfl k_fl_X12_7 dX12_peals_60 (congrFun er 0).symm ?_
              refine lv_sipush (v := 146) hx hb dX12_peals_63 (by decide) ?_
              refine iv_wald_c X hB h_gw q_146 (by decide) (lo := 0) (hi' := 10) (by decide) dX12_peals_66 (fun x65 e_x65 k_x65 => ?_)
              obtain rfl : x1 = x65 := e_x1.trans e_x65.symm
              refine lv_icmp_ge (tgt := 107) hx hb dX12_peals_67 (by decide) (fun c66 => ?_) (fun c66 => ?_)
              · skip
                obtain ⟨gp, rp, h_gp⟩ := iv_got12_29 hB a_h0
                rw [er] at h_gp
                have hset : x_0.toInt.toNat < 2 ^ x61.toInt.toNat := by
                  have w1 := (hp5.1 c7).2
                  have w2 : x3.toInt = x2.toInt - (1 : Int32).toInt := e_x3
                  have w3 : (1 : Int32).toInt = 1 := rfl
                  have w4 : x2.toInt = ((2 ^ x1.toInt.toNat : Nat) : Int) := by rw [e_x2]; exact (Int.natCast_pow 2 _).symm
                  have w5 : x1.toInt.toNat ≤ x61.toInt.toNat := by have w6 := Int32.le_iff_toInt_le.mp c66; omega
                  have w7 : 2 ^ x1.toInt.toNat ≤ 2 ^ x61.toInt.toNat := Nat.pow_le_pow_right (by decide) w5
                  have w8 := i9_x_0.1
                  omega
                have htop := iv_pcn.top hset (24 - x61.toInt.toNat)
                rw [show x61.toInt.toNat + (24 - x61.toInt.toNat) = 24 from by have := i_x61.1; have := i_x61.2; omega] at htop
                obtain ⟨m0, hm0⟩ : ∃ m0, m0 = (g62 31).toInt.toNat := ⟨_, rfl⟩
                have hmc : x11.toInt = (m0 : Int) := by have w1 := xp12; have w2 := gi_58; omega
                have hm8 : m0 ≤ 8 := by have := i15_x11.2; omega
                have hp1 := Nat.one_le_two_pow (n := m0)
                refine lv_aload_n hx hb dX12_peals_107 rfl (lv_at hl 1 rfl) ?_
                refine iv_cVv X k_good k_mf_X12_laysPeals k_im_X12_laysPeals k_sel_X12_laysPeals k_ml_X12_453 ft_X12 hB a_h0 sh_12 (As := []) (e_X12_laysPeals l D tys base G64 h0 g62 r63 a_h0 gw r_gw (by rw [er]; exact h_gw) gp rp (by rw [er]; exact h_gp)) ⟨rfl, rfl⟩ ⟨Nat.le_of_ble_eq_true rfl, Nat.le_of_ble_eq_true rfl⟩ ⟨Nat.le_of_ble_eq_true rfl, Nat.le_of_ble_eq_true rfl⟩ rfl rfl hl.1 (Nat.le_of_ble_eq_true rfl) dX12_peals_108 (fun G9 H locs hq hB => ?_)
                obtain ⟨hm, xp67⟩ := hq
                obtain ⟨G68, hG9⟩ : ∃ g, g = G9 := ⟨_, rfl⟩
                rw [← hG9] at hm hB xp67
                have hM := hM.stp hm (by decide)
                have h_gw := hm.at h_gw (by decide)
                have a_h0 := hm.at a_h0 (by decide)
                have h_gp := hm.at h_gp (by decide)
                obtain ⟨go, qo, t_go, P1⟩ := xp67
                rw [← hm0] at P1
                rw [er] at t_go
                refine lv_iload_n hx hb dX12_peals_111 rfl (lv_at hl 3 rfl) ?_
                refine lv_if_ne (tgt := 123) hx hb dX12_peals_112 (by decide) (fun c69 => ?_) (fun c69 => ?_)
                · skip
                  refine lv_aload_n hx hb dX12_peals_123 rfl (lv_at hl 1 rfl) ?_
                  refine iv_getr X ft_X12 hB a_h0 sh_12 30 (by decide) rfl k_fl_X12_53 dX12_peals_124 (fun b70 g_b70 r_b70 e_b70 a_b70 => ?_)
                  refine lv_bipush (v := 8) hx hb dX12_peals_127 (by decide) ?_
                  refine iv_ald X hB a_b70 sh_73 (iv_in q_8 (by decide)) dX12_peals_129 (fun x71 e_x71 i_x71 => ?_)
                  refine lv_if_ne (tgt := 135) hx hb dX12_peals_130 (by decide) (fun c72 => ?_) (fun c72 => ?_)
                  · skip
                    have hgo8 : ¬ go (9 * (0 : Int32).toInt.toNat + (8 : Int32).toInt.toNat) = 0 := fun q => c72 (by rw [e_x71, iv_samew t_go (e_b70.trans (congrFun er 30)) a_b70]; exact q)
                    refine lv_iconst (v := 0) hx hb dX12_peals_135 (by decide) ?_
                    refine lv_istore_n (lv' := [(3, .int 0), (0, .ref h0), (1, .int x_0), (2, .int x_1)]) hx hb dX12_peals_136 rfl hl (by decide) rfl (fun ls hl => ?_)
                    refine lv_bipush (v := 8) hx hb dX12_peals_137 (by decide) ?_
                    refine lv_istore (lv' := [(4, .int 8), (3, .int 0), (0, .ref h0), (1, .int x_0), (2, .int x_1)]) hx hb dX12_peals_139 hl (by decide) rfl (fun ls hl => ?_)
                    refine lv_bipush (v := 10) hx hb dX12_peals_141 (by decide) ?_
                    refine lv_istore (lv' := [(5, .int 10), (4, .int 8), (3, .int 0), (0, .ref h0), (1, .int x_0), (2, .int x_1)]) hx hb dX12_peals_143 hl (by decide) rfl (fun ls hl => ?_)
                    have L_145 : ∀ (n_145 : Nat) (G78 : iv_G) (hM : iv_Md [12, 72, 73] G G78) (H : Heap) (locs : List Loc) (hB : iv_B iv_sh D classes tys base G78 s.heap H locs) (h_gw : G78 (r_h0 0) = some (60, gw, r_gw)) (g76 : Nat → Int32) (r77 : Nat → Nat) (a_h0 : G78 h0 = some (12, g76, r77)) (x73 : Int32) (i_x73 : iv_R 0 255 x73) (x74 : Int32) (i_x74 : iv_R 0 8 x74) (x75 : Int32) (i_x75 : iv_R 10 39 x75) (hn_145 : (40 - x75.toInt).toNat < n_145) (gi_145 : G78 = G68 ∧ x73.toInt.toNat < 2 ^ m0 ∧ ((iv_pcb x73.toInt.toNat : Nat) : Int) + 10 = x75.toInt ∧ (x74.toInt.toNat = 8 ∨ x74.toInt.toNat < m0) ∧ ¬ go (9 * x73.toInt.toNat + x74.toInt.toNat) = 0 ∧ (x74.toInt = 8 → x75.toInt = 10)) (ls : Array Slot) (hl : lv_has ls 7 [(5, .int x75), (4, .int x74), (3, .int x73), (0, .ref h0), (2, .int x_1)]), W p l e ({ frames := 3, cells := 0, slots := 0, locals := 70 } : Room) s m args below meth c H locs 0 0 (MQ below (iv_Qi iv_sh D classes tys base (fun v G' => iv_Md [12, 72, 73] G G' ∧ iv_R (-2147483648) 2147483647 v)) args s 0 0 (iv_A base)) (F0 m 145 ls []) := by
                      intro n_145
                      induction n_145 with
                      | zero => intro G78 hM H locs hB h_gw g76 r77 a_h0 x73 i_x73 x74 i_x74 x75 i_x75 hn_145 gi_145 ls hl; exact absurd hn_145 (Nat.not_lt_zero _)
                      | succ n_145 ih_145 =>
                        intro G78 hM H locs hB h_gw g76 r77 a_h0 x73 i_x73 x74 i_x74 x75 i_x75 hn_145 gi_145 ls hl
                        obtain ⟨hGx1, V1, V2, V3, V4, V5⟩ := gi_145
                        rw [← hGx1] at t_go h_gp
                        have er : r77 = r_h0 := iv_refs (iv_MdT.of hM) a_st a_h0
                        refine lv_iload hx hb dX12_peals_145 (lv_at hl 0 rfl) ?_
                        refine lv_iload_n hx hb dX12_peals_147 rfl (lv_at hl 4 rfl) ?_
                        refine lv_icmp_gt (tgt := 209) hx hb dX12_peals_148 (by decide) (fun c79 => ?_) (fun c79 => ?_)
                        · skip
                          have i79_x75 : iv_R 11 39 x75 := (i_x75.cutLo (n := 11) (iv_lt_l c79 i57_x_1 (by decide)))
                          refine lv_aload_n hx hb dX12_peals_209 rfl (lv_at hl 3 rfl) ?_
                          refine iv_getr X ft_X12 hB a_h0 sh_12 29 (by decide) rfl k_fl_X12_50 dX12_peals_210 (fun b81 g_b81 r_b81 e_b81 a_b81 => ?_)
                          refine lv_iload hx hb dX12_peals_213 (lv_at hl 1 rfl) ?_
                          have i81_x74 : iv_R 0 7 x74 := ⟨i_x74.1, by have w1 := V5; have w2 := Int32.lt_iff_toInt_lt.mp c79; have w3 := i57_x_1.1; have w4 := i_x74.2; omega⟩
                          refine iv_ald X hB a_b81 sh_72 (iv_in i81_x74 (by decide)) dX12_peals_215 (fun x83 e_x83 i_x83 => ?_)
                          exact iv_iret X hr hlocks hB ⟨hM, (i_x83.wk (by decide))⟩ dX12_peals_216
                        · skip
                          have i83_x75 : iv_R 10 33 x75 := (i_x75.cutHi (n := 33) (iv_le_r (iv_nlt c79) i57_x_1))
                          have hne : ¬ x73.toInt.toNat = 2 ^ m0 - 1 := fun q => by
                            have w1 := iv_bN5' hm8 q
                            have w2 := (hp54.1 c56).2
                            have w3 := Int32.le_iff_toInt_le.mp (iv_nlt c79)
                            have w4 : x52.toInt = (9 : Int32).toInt + x49.toInt := e_x52
                            have w5 : (9 : Int32).toInt = 9 := rfl
                            have w6 := xp50
                            have w7 := xp12
                            omega
                          obtain ⟨i0, hi0, hcf, hgo0⟩ := (P1 x73.toInt.toNat x74.toInt.toNat (by omega) V1 (by have := i_x74.2; omega) V4).resolve_left hne
                          refine lv_iconst (v := 0) hx hb dX12_peals_151 (by decide) ?_
                          refine lv_istore (lv' := [(6, .int 0), (5, .int x75), (4, .int x74), (3, .int x73), (0, .ref h0), (2, .int x_1)]) hx hb dX12_peals_152 hl (by decide) rfl (fun ls hl => ?_)
                          have L_154 : ∀ (n_154 : Nat) (G88 : iv_G) (hM : iv_Md [12, 72, 73] G G88) (H : Heap) (locs : List Loc) (hB : iv_B iv_sh D classes tys base G88 s.heap H locs) (h_gw : G88 (r_h0 0) = some (60, gw, r_gw)) (g86 : Nat → Int32) (r87 : Nat → Nat) (a_h0 : G88 h0 = some (12, g86, r87)) (x85 : Int32) (i_x85 : iv_R 0 7 x85) (hn_154 : (8 - x85.toInt).toNat < n_154) (gi_154 : G88 = G78 ∧ x85.toInt ≤ (i0 : Int)) (ls : Array Slot) (hl : lv_has ls 7 [(6, .int x85), (5, .int x75), (4, .int x74), (3, .int x73), (0, .ref h0), (2, .int x_1)]), W p l e ({ frames := 3, cells := 0, slots := 0, locals := 70 } : Room) s m args below meth c H locs 0 0 (MQ below (iv_Qi iv_sh D classes tys base (fun v G' => iv_Md [12, 72, 73] G G' ∧ iv_R (-2147483648) 2147483647 v)) args s 0 0 (iv_A base)) (F0 m 154 ls []) := by
                            intro n_154
                            induction n_154 with
                            | zero => intro G88 hM H locs hB h_gw g86 r87 a_h0 x85 i_x85 hn_154 gi_154 ls hl; exact absurd hn_154 (Nat.not_lt_zero _)
                            | succ n_154 ih_154 =>
                              intro G88 hM H locs hB h_gw g86 r87 a_h0 x85 i_x85 hn_154 gi_154 ls hl
                              obtain ⟨hGx2, gi_154⟩ := gi_154
                              rw [← hGx2] at t_go h_gp
                              have er : r87 = r_h0 := iv_refs (iv_MdT.of hM) a_st a_h0
                              refine lv_aload_n hx hb dX12_peals_154 rfl (lv_at hl 4 rfl) ?_
                              refine lv_iload hx hb dX12_peals_155 (lv_at hl 0 rfl) ?_
                              refine lv_iload hx hb dX12_peals_157 (lv_at hl 2 rfl) ?_
                              refine lv_iload_n hx hb dX12_peals_159 rfl (lv_at hl 3 rfl) ?_
                              refine iv_cVi X k_good k_mf_X12_canFollow k_im_X12_canFollow k_sel_X12_canFollow k_ml_X12_450 ft_X12 hB a_h0 sh_12 (As := [.int x85, .int x74, .int x73]) (e_X12_canFollow l D tys base G88 h0 g86 r87 a_h0 x85 i_x85 x74 i_x74 x73 i_x73 gw r_gw (by rw [er]; exact h_gw) gp rp (by rw [er]; exact h_gp)) ⟨rfl, rfl⟩ ⟨Nat.le_of_ble_eq_true rfl, Nat.le_of_ble_eq_true rfl⟩ ⟨Nat.le_of_ble_eq_true rfl, Nat.le_of_ble_eq_true rfl⟩ rfl rfl hl.1 (Nat.le_of_ble_eq_true rfl) dX12_peals_160 (fun x89 G9 H locs hq hB => ?_)
                              obtain ⟨rfl, i_x89, xp90⟩ := hq
                              refine lv_if_eq (tgt := 186) hx hb dX12_peals_163 (by decide) (fun c91 => ?_) (fun c91 => ?_)
                              · skip
                                have i91_x89 : iv_R 0 0 x89 := (i_x89.cutHi (n := 0) (iv_eq_r c91 q_0).2)
                                have hlt : x85.toInt < (i0 : Int) := by
                                  have w1 : ¬ x85.toInt.toNat = i0 := fun q => (xp90.2 (by rw [q]; exact hcf)) (by assumption)
                                  have w2 := gi_154
                                  have w3 := i_x85.1
                                  omega
                                refine iv_iinc hx hb i_x85 (lo := 1) (hi := 8) (by decide) dX12_peals_186 hl (k := 0) rfl (by decide) (fun x93 ls e_x93 i_x93 hl => ?_)
                                have hl : lv_has ls 7 [(6, .int x93), (5, .int x75), (4, .int x74), (3, .int x73), (0, .ref h0), (2, .int x_1)] := hl
                                have i93_x93 : iv_R 1 7 x93 := ⟨by have := i_x93.1; omega, by have w1 : x93.toInt = x85.toInt + 1 := e_x93; omega⟩
                                refine lv_goto (tgt := 154) hx hb dX12_peals_189 (by decide) ?_
                                exact ih_154 G88 hM _ _ hB h_gw g86 r87 a_h0 x93 (i93_x93.wk (by decide)) (iv_mup (c := 1) i_x85 (by decide) (by decide) (by omega) hn_154) ⟨hGx2, by have w1 : x93.toInt = x85.toInt + 1 := e_x93; omega⟩ _ (lv_sub hl [0, 1, 2, 3, 4, 5] rfl)
                              · skip
                                have i94_x89 : iv_R 1 1 x89 := iv_ne_lo c91 i_x89 q_0 (by decide)
                                refine lv_aload_n hx hb dX12_peals_166 rfl (lv_at hl 4 rfl) ?_
                                refine iv_getr X ft_X12 hB a_h0 sh_12 30 (by decide) rfl k_fl_X12_53 dX12_peals_167 (fun b96 g_b96 r_b96 e_b96 a_b96 => ?_)
                                refine lv_bipush (v := 9) hx hb dX12_peals_170 (by decide) ?_
                                refine lv_iload_n hx hb dX12_peals_172 rfl (lv_at hl 3 rfl) ?_
                                refine lv_iconst (v := 1) hx hb dX12_peals_173 (by decide) ?_
                                refine lv_iload hx hb dX12_peals_174 (lv_at hl 0 rfl) ?_
                                refine iv_shl1 hx hb i_x85 (lo := 1) (hi := 128) (by decide) dX12_peals_176 (fun x97 e_x97 i_x97 => ?_)
                                refine iv_ior hx hb i_x73 i_x97 (k := 8) (hi := 255) (by decide) dX12_peals_177 (fun x98 e_x98 i_x98 => ?_)
                                refine iv_imul hx hb q_9 i_x98 (lo := 0) (hi := 2295) (by decide) dX12_peals_178 (fun x99 e_x99 i_x99 => ?_)
                                refine lv_iload hx hb dX12_peals_179 (lv_at hl 0 rfl) ?_
                                refine iv_iadd hx hb i_x99 i_x85 (lo := 0) (hi := 2302) (by decide) dX12_peals_181 (fun x100 e_x100 i_x100 => ?_)
                                refine iv_ald X hB a_b96 sh_73 (iv_in i_x100 (by decide)) dX12_peals_182 (fun x101 e_x101 i_x101 => ?_)
                                refine lv_if_ne (tgt := 192) hx hb dX12_peals_183 (by decide) (fun c102 => ?_) (fun c102 => ?_)
                                · skip
                                  have hcfi := xp90.1 c91
                                  have him : x85.toInt.toNat < m0 := by have w1 := gi_154; have w2 := i_x85.1; omega
                                  have hval := (show x101 = go (9 * (x73.toInt.toNat ||| 2 ^ x85.toInt.toNat) + x85.toInt.toNat) from by rw [e_x101, iv_samew t_go (e_b96.trans (congrFun er 30)) a_b96]; exact congrArg go (by show x100.toInt.toNat = _; have w1 := iv_bor (by first | exact i_x73 | exact (i_x73.wk (by decide))) (by first | exact i_x85 | exact (i_x85.wk (by decide))) e_x97 e_x98; have w2 : x99.toInt = (9 : Int32).toInt * x98.toInt := e_x99; have w3 : (9 : Int32).toInt = 9 := rfl; have w4 : x100.toInt = x99.toInt + x85.toInt := e_x100; have w5 := i_x85.1; rw [w3] at w2; omega))
                                  refine lv_iload_n hx hb dX12_peals_192 rfl (lv_at hl 3 rfl) ?_
                                  refine lv_iconst (v := 1) hx hb dX12_peals_193 (by decide) ?_
                                  refine lv_iload hx hb dX12_peals_194 (lv_at hl 0 rfl) ?_
                                  refine iv_shl1 hx hb i_x85 (lo := 1) (hi := 128) (by decide) dX12_peals_196 (fun x103 e_x103 i_x103 => ?_)
                                  refine iv_ior hx hb i_x73 i_x103 (k := 8) (hi := 255) (by decide) dX12_peals_197 (fun x104 e_x104 i_x104 => ?_)
                                  refine lv_istore_n (lv' := [(3, .int x104), (6, .int x85), (5, .int x75), (4, .int x74), (0, .ref h0), (2, .int x_1)]) hx hb dX12_peals_198 rfl hl (by decide) rfl (fun ls hl => ?_)
                                  refine lv_iload hx hb dX12_peals_199 (lv_at hl 1 rfl) ?_
                                  refine lv_istore (lv' := [(4, .int x85), (3, .int x104), (6, .int x85), (5, .int x75), (0, .ref h0), (2, .int x_1)]) hx hb dX12_peals_201 hl (by decide) rfl (fun ls hl => ?_)
                                  refine iv_iinc hx hb i83_x75 (lo := 11) (hi := 34) (by decide) dX12_peals_203 hl (k := 3) rfl (by decide) (fun x105 ls e_x105 i_x105 hl => ?_)
                                  have hl : lv_has ls 7 [(5, .int x105), (4, .int x85), (3, .int x104), (6, .int x85), (0, .ref h0), (2, .int x_1)] := hl
                                  refine lv_goto (tgt := 145) hx hb dX12_peals_206 (by decide) ?_
                                  have hbo := iv_bor (by first | exact i_x73 | exact (i_x73.wk (by decide))) (by first | exact i_x85 | exact (i_x85.wk (by decide))) e_x103 e_x104
                                  have hbn : x104.toInt.toNat = x73.toInt.toNat ||| 2 ^ x85.toInt.toNat := by omega
                                  exact ih_145 G88 hM _ _ hB h_gw g86 r87 a_h0 x104 i_x104 x85 (i_x85.wk (by decide)) x105 (i_x105.wk (by decide)) (iv_mup (c := 1) i_x75 (by decide) (by decide) (by omega) hn_145) ⟨hGx2.trans hGx1, by rw [hbn]; exact iv_bN4' hm8 V1 him, by have w1 : x105.toInt = x75.toInt + 1 := e_x105; rw [hbn, iv_bN3' hm8 V1 him hcfi]; omega, Or.inr him, by rw [hbn, ← hval]; exact c102, fun q => absurd q (by have := i_x85.2; omega)⟩ _ (lv_sub hl [0, 1, 2, 4, 5] rfl)
                                · skip
                                  have i105_x101 : iv_R 0 0 x101 := ((i_x101.cutLo (n := 0) (iv_eq_r c102 q_0).1).cutHi (n := 0) (iv_eq_r c102 q_0).2)
                                  have hlt : x85.toInt < (i0 : Int) := by
                                    have w1 : ¬ x85.toInt.toNat = i0 := fun q => hgo0 (by rw [← q, ← (show x101 = go (9 * (x73.toInt.toNat ||| 2 ^ x85.toInt.toNat) + x85.toInt.toNat) from by rw [e_x101, iv_samew t_go (e_b96.trans (congrFun er 30)) a_b96]; exact congrArg go (by show x100.toInt.toNat = _; have w1 := iv_bor (by first | exact i_x73 | exact (i_x73.wk (by decide))) (by first | exact i_x85 | exact (i_x85.wk (by decide))) e_x97 e_x98; have w2 : x99.toInt = (9 : Int32).toInt * x98.toInt := e_x99; have w3 : (9 : Int32).toInt = 9 := rfl; have w4 : x100.toInt = x99.toInt + x85.toInt := e_x100; have w5 := i_x85.1; rw [w3] at w2; omega))]; assumption)
                                    have w2 := gi_154
                                    have w3 := i_x85.1
                                    omega
                                  refine iv_iinc hx hb i_x85 (lo := 1) (hi := 8) (by decide) dX12_peals_186 hl (k := 0) rfl (by decide) (fun x107 ls e_x107 i_x107 hl => ?_)
                                  have hl : lv_has ls 7 [(6, .int x107), (5, .int x75), (4, .int x74), (3, .int x73), (0, .ref h0), (2, .int x_1)] := hl
                                  have i107_x107 : iv_R 1 7 x107 := ⟨by have := i_x107.1; omega, by have w1 : x107.toInt = x85.toInt + 1 := e_x107; omega⟩
                                  refine lv_goto (tgt := 154) hx hb dX12_peals_189 (by decide) ?_
                                  exact ih_154 G88 hM _ _ hB h_gw g86 r87 a_h0 x107 (i107_x107.wk (by decide)) (iv_mup (c := 1) i_x85 (by decide) (by decide) (by omega) hn_154) ⟨hGx2, by have w1 : x107.toInt = x85.toInt + 1 := e_x107; omega⟩ _ (lv_sub hl [0, 1, 2, 3, 4, 5] rfl)
                          exact L_154 _ G78 hM _ _ hB h_gw g76 r77 a_h0 0 (q_0.wk (by decide)) (Nat.lt_succ_self _) ⟨rfl, by have z0 : (0 : Int32).toInt = 0 := rfl; omega⟩ _ (lv_sub hl [0, 1, 2, 3, 4, 5] rfl)
                    exact L_145 _ G68 hM _ _ hB h_gw g62 r63 a_h0 0 (q_0.wk (by decide)) 8 (q_8.wk (by decide)) 10 (q_10.wk (by decide)) (Nat.lt_succ_self _) ⟨rfl, by have z0 : (0 : Int32).toInt = 0 := rfl; rw [z0]; exact hp1, rfl, Or.inl rfl, hgo8, fun _ => rfl⟩ _ (lv_sub hl [0, 1, 2, 3, 5] rfl)
                  · skip
                    have i108_x71 : iv_R 0 0 x71 := ((i_x71.cutLo (n := 0) (iv_eq_r c72 q_0).1).cutHi (n := 0) (iv_eq_r c72 q_0).2)
                    refine lv_iconst (v := (-1)) hx hb dX12_peals_133 (by decide) ?_
                    exact iv_iret X hr hlocks hB ⟨hM, (q_n1.wk (by decide))⟩ dX12_peals_134
                · skip
                  exact absurd c69 c17
              · skip
                have i109_x61 : iv_R 0 9 x61 := (i_x61.cutHi (n := 9) (iv_lt_r (iv_nle c66) i_x1 (by decide)))
                have i110_x1 : iv_R 1 10 x1 := (i_x1.cutLo (n := 1) (iv_lt_l (iv_nle c66) i_x61 (by decide)))
                refine lv_iload_n hx hb dX12_peals_70 rfl (lv_at hl 2 rfl) ?_
                refine lv_iload_n hx hb dX12_peals_71 rfl (lv_at hl 0 rfl) ?_
                refine lv_ishr hx hb dX12_peals_72 ?_
                refine lv_topi (fun x112 e_x112 => ?_)
                have i_x112 := iv_R.all x112
                refine lv_iconst (v := 1) hx hb dX12_peals_73 (by decide) ?_
                refine iv_iand_r hx hb q_1 (by decide) dX12_peals_74 (fun x113 e_x113 i_x113 => ?_)
                refine lv_if_ne (tgt := 81) hx hb dX12_peals_75 (by decide) (fun c114 => ?_) (fun c114 => ?_)
                · skip
                  have i114_x113 : iv_R 1 1 x113 := iv_ne_lo c114 i_x113 q_0 (by decide)
                  refine lv_aload_n hx hb dX12_peals_81 rfl (lv_at hl 1 rfl) ?_
                  refine iv_getr X ft_X12 hB a_h0 sh_12 29 (by decide) rfl k_fl_X12_50 dX12_peals_82 (fun b116 g_b116 r_b116 e_b116 a_b116 => ?_)
                  refine lv_aload_n hx hb dX12_peals_85 rfl (lv_at hl 1 rfl) ?_
                  refine iv_geti X ft_X12 hB a_h0 sh_12 31 (by decide) rfl k_fl_X12_447 dX12_peals_86 (fun x117 e_x117 i_x117 => ?_)
                  have pbit := iv_bval i9_x_0 (i109_x61.wk (by decide)) e_x112 e_x113
                  have pone : x_0.toInt.toNat / 2 ^ x61.toInt.toNat % 2 = 1 := by have w1 : ¬ x113.toInt = 0 := fun q => c114 (Int32.toInt_inj.mp q); omega
                  have pup : iv_pcn x_0.toInt.toNat (x61.toInt.toNat + 1) = iv_pcn x_0.toInt.toNat x61.toInt.toNat + 1 := by show _ + _ = _; rw [pone]
                  have pmo := iv_pcn.mono x_0.toInt.toNat (n := x61.toInt.toNat + 1) (23 - x61.toInt.toNat)
                  rw [show x61.toInt.toNat + 1 + (23 - x61.toInt.toNat) = 24 from by have := i109_x61.1; have := i109_x61.2; omega] at pmo
                  have px : x117.toInt = ((iv_pcn x_0.toInt.toNat x61.toInt.toNat : Nat) : Int) := (congrArg Int32.toInt e_x117).trans gi_58
                  have i117_x117 : iv_R 0 7 x117 := ⟨by omega, by have w1 := xp12; have w2 := i15_x11.2; omega⟩
                  refine lv_iload_n hx hb dX12_peals_89 rfl (lv_at hl 0 rfl) ?_
                  refine iv_ast X hB a_b116 sh_72 (iv_in i117_x117 (by decide)) i109_x61 dX12_peals_90 (fun H locs hB => ?_)
                  have hm := iv_Md.ast (j := x117.toNatClampNeg) (x := x61) a_b116 rfl (by decide)
                  have h9 := iv_up_eq (G := G64) (a := b116) (k := (72, upd g_b116 x117.toNatClampNeg x61, r_b116))
                  generalize iv_up G64 b116 _ = G119 at hB hm h9
                  have hM := hM.stp hm (by decide)
                  have h_gw := hm.at h_gw (by decide)
                  have a_h0 := hm.at a_h0 (by decide)
                  refine lv_aload_n hx hb dX12_peals_91 rfl (lv_at hl 1 rfl) ?_
                  refine lv_dup hx hb dX12_peals_92 rfl ?_
                  refine iv_geti0 X ft_X12 hB a_h0 sh_12 31 (by decide) rfl k_fl_X12_447 dX12_peals_93 e_x117 ?_
                  refine lv_iconst (v := 1) hx hb dX12_peals_96 (by decide) ?_
                  refine iv_iadd hx hb i117_x117 q_1 (lo := 1) (hi := 8) (by decide) dX12_peals_97 (fun x121 e_x121 i_x121 => ?_)
                  refine iv_puti X ft_X12 hB a_h0 sh_12 31 (by decide) rfl rfl k_fl_X12_447 rfl (i_x121.wk (by decide)) rfl rfl dX12_peals_98 (fun H locs hB => ?_)
                  have hm := iv_Md.put (x := x121) a_h0 (j := 31) (by decide) (by decide)
                  have h9 := iv_up_eq (G := G119) (a := h0) (k := (12, upd g62 31 x121, r63))
                  generalize iv_up G119 h0 _ = G122 at hB hm h9
                  have hM := hM.stp hm (by decide)
                  generalize hgn_g123 : upd g62 _ _ = g123 at h9
                  have h_gw := hm.at h_gw (by decide)
                  have a_h0 := h9
                  have e9_g123 : x121 = g123 31 := by rw [← hgn_g123]; simp [upd]
                  refine iv_iinc hx hb i109_x61 (lo := 1) (hi := 10) (by decide) dX12_peals_101 hl (k := 0) rfl (by decide) (fun x124 ls e_x124 i_x124 hl => ?_)
                  have hl : lv_has ls 7 [(3, .int x124), (0, .ref h0), (1, .int x_0), (2, .int x_1)] := hl
                  refine lv_goto (tgt := 58) hx hb dX12_peals_104 (by decide) ?_
                  exact ih_58 G122 hM _ _ hB h_gw g123 r63 a_h0 x124 (i_x124.wk (by decide)) (iv_mup (c := 1) i_x61 (by decide) (by decide) (by omega) hn_58) (by have w1 := congrArg Int32.toInt e9_g123; have w2 : x121.toInt = x117.toInt + 1 := e_x121; have w5 : x124.toInt.toNat = x61.toInt.toNat + 1 := (by have w6 : x124.toInt = x61.toInt + 1 := e_x124; have w7 := i109_x61.1; omega); rw [w5]; rw [pup]; omega) _ (lv_sub hl [0, 1, 2, 3] rfl)
                · skip
                  have i124_x113 : iv_R 0 0 x113 := (i_x113.cutHi (n := 0) (iv_eq_r c114 q_0).2)
                  refine lv_goto (tgt := 101) hx hb dX12_peals_78 (by decide) ?_
                  refine iv_iinc hx hb i109_x61 (lo := 1) (hi := 10) (by decide) dX12_peals_101 hl (k := 0) rfl (by decide) (fun x126 ls e_x126 i_x126 hl => ?_)
                  have hl : lv_has ls 7 [(3, .int x126), (0, .ref h0), (1, .int x_0), (2, .int x_1)] := hl
                  refine lv_goto (tgt := 58) hx hb dX12_peals_104 (by decide) ?_
                  exact ih_58 G64 hM _ _ hB h_gw g62 r63 a_h0 x126 (i_x126.wk (by decide)) (iv_mup (c := 1) i_x61 (by decide) (by decide) (by omega) hn_58) (by have w1 := iv_bval i9_x_0 (i109_x61.wk (by decide)) e_x112 e_x113; have w2 : x113.toInt = 0 := congrArg Int32.toInt (show x113 = 0 by assumption); have w5 : x126.toInt.toNat = x61.toInt.toNat + 1 := (by have w6 : x126.toInt = x61.toInt + 1 := e_x126; have w7 := i109_x61.1; omega); rw [w5]; show _ = ((_ + x_0.toInt.toNat / 2 ^ x61.toInt.toNat % 2 : Nat) : Int); rw [show x_0.toInt.toNat / 2 ^ x61.toInt.toNat % 2 = 0 from by omega]; exact gi_58) _ (lv_sub hl [0, 1, 2, 3] rfl)
          exact L_58 _ G59 hM _ _ hB h_gw g60 r_h0 a_h0 0 (q_0.wk (by decide)) (Nat.lt_succ_self _) (by have z0 : (0 : Int32).toInt = 0 := rfl; rw [← e9_g60, z0]; rfl) _ (lv_sub hl [0, 1, 2, 3] rfl)
        · skip
          have i126_x53 : iv_R 0 0 x53 := (i_x53.cutHi (n := 0) (iv_eq_r c56 q_0).2)
          refine lv_iconst (v := (-1)) hx hb dX12_peals_49 (by decide) ?_
          exact iv_iret X hr hlocks hB ⟨hM, (q_n1.wk (by decide))⟩ dX12_peals_50
