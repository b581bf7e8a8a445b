/-! words of the tables, by their places -/
def iv_W0 : List Cond := lw_tbl.filter goodWord
set_option maxRecDepth 20000 in
theorem k_good : iv_W0.all goodWord = true := List.all_eq_true.mpr (fun w hw => (List.mem_filter.mp hw).2)
set_option maxRecDepth 20000 in
theorem k_c1 {w : Cond} (h : w ∈ tables_1_1) (hg : goodWord w = true) : w ∈ iv_W0 := List.mem_filter.mpr ⟨List.mem_append_right _ (List.mem_append_left _ h), hg⟩
set_option maxRecDepth 20000 in
theorem k_c2 {w : Cond} (h : w ∈ tables_1_2) (hg : goodWord w = true) : w ∈ iv_W0 := List.mem_filter.mpr ⟨List.mem_append_right _ (List.mem_append_right _ (List.mem_append_left _ h)), hg⟩
set_option maxRecDepth 20000 in
theorem k_c3 {w : Cond} (h : w ∈ tables_1_3) (hg : goodWord w = true) : w ∈ iv_W0 := List.mem_filter.mpr ⟨List.mem_append_right _ (List.mem_append_right _ (List.mem_append_right _ (List.mem_append_left _ h))), hg⟩
set_option maxRecDepth 20000 in
theorem k_c4 {w : Cond} (h : w ∈ tables_1_4) (hg : goodWord w = true) : w ∈ iv_W0 := List.mem_filter.mpr ⟨List.mem_append_right _ (List.mem_append_right _ (List.mem_append_right _ (List.mem_append_right _ (List.mem_append_left _ h)))), hg⟩
set_option maxRecDepth 20000 in
theorem k_c5 {w : Cond} (h : w ∈ tables_1_5) (hg : goodWord w = true) : w ∈ iv_W0 := List.mem_filter.mpr ⟨List.mem_append_right _ (List.mem_append_right _ (List.mem_append_right _ (List.mem_append_right _ (List.mem_append_right _ (List.mem_append_left _ h))))), hg⟩
set_option maxRecDepth 20000 in
theorem k_c6 {w : Cond} (h : w ∈ tables_1_6) (hg : goodWord w = true) : w ∈ iv_W0 := List.mem_filter.mpr ⟨List.mem_append_right _ (List.mem_append_right _ (List.mem_append_right _ (List.mem_append_right _ (List.mem_append_right _ (List.mem_append_right _ (List.mem_append_left _ h)))))), hg⟩
set_option maxRecDepth 20000 in
theorem k_c7 {w : Cond} (h : w ∈ tables_1_7) (hg : goodWord w = true) : w ∈ iv_W0 := List.mem_filter.mpr ⟨List.mem_append_right _ (List.mem_append_right _ (List.mem_append_right _ (List.mem_append_right _ (List.mem_append_right _ (List.mem_append_right _ (List.mem_append_right _ (List.mem_append_left _ h))))))), hg⟩
set_option maxRecDepth 20000 in
theorem k_c8 {w : Cond} (h : w ∈ tables_1_8) (hg : goodWord w = true) : w ∈ iv_W0 := List.mem_filter.mpr ⟨List.mem_append_right _ (List.mem_append_right _ (List.mem_append_right _ (List.mem_append_right _ (List.mem_append_right _ (List.mem_append_right _ (List.mem_append_right _ (List.mem_append_right _ (h)))))))), hg⟩
abbrev classes : List vw_C := [(RX0, TX0, 2), (RX1, TX1, 8), (RX2, TX2, 2), (RX3, TX3, 7), (RX4, TX4, 5), (RX5, TX5, 15), (RX6, TX6, 3), (RX7, TX7, 15), (RX8, TX8, 3), (RX9, TX9, 2), (RX10, TX10, 3), (RX11, TX11, 12), (RX12, TX12, 32)]
set_option maxRecDepth 20000 in
theorem in_X0 : ∀ k, k < 2 → u_lay RX0 TX0 k ∈ iv_W0 := fun k hk => match k, hk with | 0, _ => k_c2 (List.mem_of_getElem? (i := 135) rfl) rfl | 1, _ => k_c2 (List.mem_of_getElem? (i := 137) rfl) rfl | k + 2, h => absurd h (by omega)
set_option maxRecDepth 20000 in
theorem ft_X0 : iv_FT classes iv_W0 0 RX0 TX0 2 tyX0 := ⟨rfl, fun w hw => by obtain ⟨j, hj, rfl⟩ := List.mem_map.mp hw; exact in_X0 j (List.mem_range.mp hj), tyX0_ok, nmX0⟩
set_option maxRecDepth 20000 in
theorem in_X1 : ∀ k, k < 8 → u_lay RX1 TX1 k ∈ iv_W0 := fun k hk => match k, hk with | 0, _ => k_c1 (List.mem_of_getElem? (i := 151) rfl) rfl | 1, _ => k_c1 (List.mem_of_getElem? (i := 153) rfl) rfl | 2, _ => k_c1 (List.mem_of_getElem? (i := 155) rfl) rfl | 3, _ => k_c1 (List.mem_of_getElem? (i := 157) rfl) rfl | 4, _ => k_c1 (List.mem_of_getElem? (i := 159) rfl) rfl | 5, _ => k_c1 (List.mem_of_getElem? (i := 161) rfl) rfl | 6, _ => k_c1 (List.mem_of_getElem? (i := 163) rfl) rfl | 7, _ => k_c1 (List.mem_of_getElem? (i := 165) rfl) rfl | k + 8, h => absurd h (by omega)
set_option maxRecDepth 20000 in
theorem ft_X1 : iv_FT classes iv_W0 1 RX1 TX1 8 tyX1 := ⟨rfl, fun w hw => by obtain ⟨j, hj, rfl⟩ := List.mem_map.mp hw; exact in_X1 j (List.mem_range.mp hj), tyX1_ok, nmX1⟩
set_option maxRecDepth 20000 in
theorem in_X2 : ∀ k, k < 2 → u_lay RX2 TX2 k ∈ iv_W0 := fun k hk => match k, hk with | 0, _ => k_c2 (List.mem_of_getElem? (i := 122) rfl) rfl | 1, _ => k_c2 (List.mem_of_getElem? (i := 124) rfl) rfl | k + 2, h => absurd h (by omega)
set_option maxRecDepth 20000 in
theorem ft_X2 : iv_FT classes iv_W0 2 RX2 TX2 2 tyX2 := ⟨rfl, fun w hw => by obtain ⟨j, hj, rfl⟩ := List.mem_map.mp hw; exact in_X2 j (List.mem_range.mp hj), tyX2_ok, nmX2⟩
set_option maxRecDepth 20000 in
theorem in_X3 : ∀ k, k < 7 → u_lay RX3 TX3 k ∈ iv_W0 := fun k hk => match k, hk with | 0, _ => k_c1 (List.mem_of_getElem? (i := 92) rfl) rfl | 1, _ => k_c1 (List.mem_of_getElem? (i := 94) rfl) rfl | 2, _ => k_c1 (List.mem_of_getElem? (i := 96) rfl) rfl | 3, _ => k_c1 (List.mem_of_getElem? (i := 98) rfl) rfl | 4, _ => k_c1 (List.mem_of_getElem? (i := 100) rfl) rfl | 5, _ => k_c1 (List.mem_of_getElem? (i := 102) rfl) rfl | 6, _ => k_c1 (List.mem_of_getElem? (i := 104) rfl) rfl | k + 7, h => absurd h (by omega)
set_option maxRecDepth 20000 in
theorem ft_X3 : iv_FT classes iv_W0 3 RX3 TX3 7 tyX3 := ⟨rfl, fun w hw => by obtain ⟨j, hj, rfl⟩ := List.mem_map.mp hw; exact in_X3 j (List.mem_range.mp hj), tyX3_ok, nmX3⟩
set_option maxRecDepth 20000 in
theorem in_X4 : ∀ k, k < 5 → u_lay RX4 TX4 k ∈ iv_W0 := fun k hk => match k, hk with | 0, _ => k_c2 (List.mem_of_getElem? (i := 164) rfl) rfl | 1, _ => k_c2 (List.mem_of_getElem? (i := 166) rfl) rfl | 2, _ => k_c2 (List.mem_of_getElem? (i := 168) rfl) rfl | 3, _ => k_c2 (List.mem_of_getElem? (i := 170) rfl) rfl | 4, _ => k_c2 (List.mem_of_getElem? (i := 172) rfl) rfl | k + 5, h => absurd h (by omega)
set_option maxRecDepth 20000 in
theorem ft_X4 : iv_FT classes iv_W0 4 RX4 TX4 5 tyX4 := ⟨rfl, fun w hw => by obtain ⟨j, hj, rfl⟩ := List.mem_map.mp hw; exact in_X4 j (List.mem_range.mp hj), tyX4_ok, nmX4⟩
set_option maxRecDepth 20000 in
theorem in_X5 : ∀ k, k < 15 → u_lay RX5 TX5 k ∈ iv_W0 := fun k hk => match k, hk with | 0, _ => k_c1 (List.mem_of_getElem? (i := 224) rfl) rfl | 1, _ => k_c1 (List.mem_of_getElem? (i := 226) rfl) rfl | 2, _ => k_c1 (List.mem_of_getElem? (i := 228) rfl) rfl | 3, _ => k_c1 (List.mem_of_getElem? (i := 230) rfl) rfl | 4, _ => k_c1 (List.mem_of_getElem? (i := 232) rfl) rfl | 5, _ => k_c1 (List.mem_of_getElem? (i := 234) rfl) rfl | 6, _ => k_c1 (List.mem_of_getElem? (i := 236) rfl) rfl | 7, _ => k_c1 (List.mem_of_getElem? (i := 238) rfl) rfl | 8, _ => k_c2 (List.mem_of_getElem? (i := 0) rfl) rfl | 9, _ => k_c2 (List.mem_of_getElem? (i := 2) rfl) rfl | 10, _ => k_c2 (List.mem_of_getElem? (i := 4) rfl) rfl | 11, _ => k_c2 (List.mem_of_getElem? (i := 6) rfl) rfl | 12, _ => k_c2 (List.mem_of_getElem? (i := 8) rfl) rfl | 13, _ => k_c2 (List.mem_of_getElem? (i := 10) rfl) rfl | 14, _ => k_c2 (List.mem_of_getElem? (i := 12) rfl) rfl | k + 15, h => absurd h (by omega)
set_option maxRecDepth 20000 in
theorem ft_X5 : iv_FT classes iv_W0 5 RX5 TX5 15 tyX5 := ⟨rfl, fun w hw => by obtain ⟨j, hj, rfl⟩ := List.mem_map.mp hw; exact in_X5 j (List.mem_range.mp hj), tyX5_ok, nmX5⟩
set_option maxRecDepth 20000 in
theorem in_X6 : ∀ k, k < 3 → u_lay RX6 TX6 k ∈ iv_W0 := fun k hk => match k, hk with | 0, _ => k_c2 (List.mem_of_getElem? (i := 27) rfl) rfl | 1, _ => k_c2 (List.mem_of_getElem? (i := 29) rfl) rfl | 2, _ => k_c2 (List.mem_of_getElem? (i := 31) rfl) rfl | k + 3, h => absurd h (by omega)
set_option maxRecDepth 20000 in
theorem ft_X6 : iv_FT classes iv_W0 6 RX6 TX6 3 tyX6 := ⟨rfl, fun w hw => by obtain ⟨j, hj, rfl⟩ := List.mem_map.mp hw; exact in_X6 j (List.mem_range.mp hj), tyX6_ok, nmX6⟩
set_option maxRecDepth 20000 in
theorem in_X7 : ∀ k, k < 15 → u_lay RX7 TX7 k ∈ iv_W0 := fun k hk => match k, hk with | 0, _ => k_c2 (List.mem_of_getElem? (i := 83) rfl) rfl | 1, _ => k_c2 (List.mem_of_getElem? (i := 85) rfl) rfl | 2, _ => k_c2 (List.mem_of_getElem? (i := 87) rfl) rfl | 3, _ => k_c2 (List.mem_of_getElem? (i := 89) rfl) rfl | 4, _ => k_c2 (List.mem_of_getElem? (i := 91) rfl) rfl | 5, _ => k_c2 (List.mem_of_getElem? (i := 93) rfl) rfl | 6, _ => k_c2 (List.mem_of_getElem? (i := 95) rfl) rfl | 7, _ => k_c2 (List.mem_of_getElem? (i := 97) rfl) rfl | 8, _ => k_c2 (List.mem_of_getElem? (i := 99) rfl) rfl | 9, _ => k_c2 (List.mem_of_getElem? (i := 101) rfl) rfl | 10, _ => k_c2 (List.mem_of_getElem? (i := 103) rfl) rfl | 11, _ => k_c2 (List.mem_of_getElem? (i := 105) rfl) rfl | 12, _ => k_c2 (List.mem_of_getElem? (i := 107) rfl) rfl | 13, _ => k_c2 (List.mem_of_getElem? (i := 109) rfl) rfl | 14, _ => k_c2 (List.mem_of_getElem? (i := 111) rfl) rfl | k + 15, h => absurd h (by omega)
set_option maxRecDepth 20000 in
theorem ft_X7 : iv_FT classes iv_W0 7 RX7 TX7 15 tyX7 := ⟨rfl, fun w hw => by obtain ⟨j, hj, rfl⟩ := List.mem_map.mp hw; exact in_X7 j (List.mem_range.mp hj), tyX7_ok, nmX7⟩
set_option maxRecDepth 20000 in
theorem in_X8 : ∀ k, k < 3 → u_lay RX8 TX8 k ∈ iv_W0 := fun k hk => match k, hk with | 0, _ => k_c1 (List.mem_of_getElem? (i := 51) rfl) rfl | 1, _ => k_c1 (List.mem_of_getElem? (i := 53) rfl) rfl | 2, _ => k_c1 (List.mem_of_getElem? (i := 55) rfl) rfl | k + 3, h => absurd h (by omega)
set_option maxRecDepth 20000 in
theorem ft_X8 : iv_FT classes iv_W0 8 RX8 TX8 3 tyX8 := ⟨rfl, fun w hw => by obtain ⟨j, hj, rfl⟩ := List.mem_map.mp hw; exact in_X8 j (List.mem_range.mp hj), tyX8_ok, nmX8⟩
set_option maxRecDepth 20000 in
theorem in_X9 : ∀ k, k < 2 → u_lay RX9 TX9 k ∈ iv_W0 := fun k hk => match k, hk with | 0, _ => k_c2 (List.mem_of_getElem? (i := 148) rfl) rfl | 1, _ => k_c2 (List.mem_of_getElem? (i := 150) rfl) rfl | k + 2, h => absurd h (by omega)
set_option maxRecDepth 20000 in
theorem ft_X9 : iv_FT classes iv_W0 9 RX9 TX9 2 tyX9 := ⟨rfl, fun w hw => by obtain ⟨j, hj, rfl⟩ := List.mem_map.mp hw; exact in_X9 j (List.mem_range.mp hj), tyX9_ok, nmX9⟩
set_option maxRecDepth 20000 in
theorem in_X10 : ∀ k, k < 3 → u_lay RX10 TX10 k ∈ iv_W0 := fun k hk => match k, hk with | 0, _ => k_c2 (List.mem_of_getElem? (i := 52) rfl) rfl | 1, _ => k_c2 (List.mem_of_getElem? (i := 54) rfl) rfl | 2, _ => k_c2 (List.mem_of_getElem? (i := 56) rfl) rfl | k + 3, h => absurd h (by omega)
set_option maxRecDepth 20000 in
theorem ft_X10 : iv_FT classes iv_W0 10 RX10 TX10 3 tyX10 := ⟨rfl, fun w hw => by obtain ⟨j, hj, rfl⟩ := List.mem_map.mp hw; exact in_X10 j (List.mem_range.mp hj), tyX10_ok, nmX10⟩
set_option maxRecDepth 20000 in
theorem in_X11 : ∀ k, k < 12 → u_lay RX11 TX11 k ∈ iv_W0 := fun k hk => match k, hk with | 0, _ => k_c2 (List.mem_of_getElem? (i := 187) rfl) rfl | 1, _ => k_c2 (List.mem_of_getElem? (i := 189) rfl) rfl | 2, _ => k_c2 (List.mem_of_getElem? (i := 191) rfl) rfl | 3, _ => k_c2 (List.mem_of_getElem? (i := 193) rfl) rfl | 4, _ => k_c2 (List.mem_of_getElem? (i := 195) rfl) rfl | 5, _ => k_c2 (List.mem_of_getElem? (i := 197) rfl) rfl | 6, _ => k_c2 (List.mem_of_getElem? (i := 199) rfl) rfl | 7, _ => k_c2 (List.mem_of_getElem? (i := 201) rfl) rfl | 8, _ => k_c2 (List.mem_of_getElem? (i := 203) rfl) rfl | 9, _ => k_c2 (List.mem_of_getElem? (i := 205) rfl) rfl | 10, _ => k_c2 (List.mem_of_getElem? (i := 207) rfl) rfl | 11, _ => k_c2 (List.mem_of_getElem? (i := 209) rfl) rfl | k + 12, h => absurd h (by omega)
set_option maxRecDepth 20000 in
theorem ft_X11 : iv_FT classes iv_W0 11 RX11 TX11 12 tyX11 := ⟨rfl, fun w hw => by obtain ⟨j, hj, rfl⟩ := List.mem_map.mp hw; exact in_X11 j (List.mem_range.mp hj), tyX11_ok, nmX11⟩
set_option maxRecDepth 20000 in
theorem in_X12 : ∀ k, k < 32 → u_lay RX12 TX12 k ∈ iv_W0 := fun k hk => match k, hk with | 0, _ => k_c6 (List.mem_of_getElem? (i := 41) rfl) rfl | 1, _ => k_c6 (List.mem_of_getElem? (i := 43) rfl) rfl | 2, _ => k_c6 (List.mem_of_getElem? (i := 45) rfl) rfl | 3, _ => k_c6 (List.mem_of_getElem? (i := 47) rfl) rfl | 4, _ => k_c6 (List.mem_of_getElem? (i := 49) rfl) rfl | 5, _ => k_c6 (List.mem_of_getElem? (i := 51) rfl) rfl | 6, _ => k_c6 (List.mem_of_getElem? (i := 53) rfl) rfl | 7, _ => k_c6 (List.mem_of_getElem? (i := 55) rfl) rfl | 8, _ => k_c6 (List.mem_of_getElem? (i := 57) rfl) rfl | 9, _ => k_c6 (List.mem_of_getElem? (i := 59) rfl) rfl | 10, _ => k_c6 (List.mem_of_getElem? (i := 61) rfl) rfl | 11, _ => k_c6 (List.mem_of_getElem? (i := 63) rfl) rfl | 12, _ => k_c6 (List.mem_of_getElem? (i := 65) rfl) rfl | 13, _ => k_c6 (List.mem_of_getElem? (i := 67) rfl) rfl | 14, _ => k_c6 (List.mem_of_getElem? (i := 69) rfl) rfl | 15, _ => k_c6 (List.mem_of_getElem? (i := 71) rfl) rfl | 16, _ => k_c6 (List.mem_of_getElem? (i := 73) rfl) rfl | 17, _ => k_c6 (List.mem_of_getElem? (i := 75) rfl) rfl | 18, _ => k_c6 (List.mem_of_getElem? (i := 77) rfl) rfl | 19, _ => k_c6 (List.mem_of_getElem? (i := 79) rfl) rfl | 20, _ => k_c6 (List.mem_of_getElem? (i := 81) rfl) rfl | 21, _ => k_c6 (List.mem_of_getElem? (i := 83) rfl) rfl | 22, _ => k_c6 (List.mem_of_getElem? (i := 85) rfl) rfl | 23, _ => k_c6 (List.mem_of_getElem? (i := 87) rfl) rfl | 24, _ => k_c6 (List.mem_of_getElem? (i := 89) rfl) rfl | 25, _ => k_c6 (List.mem_of_getElem? (i := 91) rfl) rfl | 26, _ => k_c6 (List.mem_of_getElem? (i := 93) rfl) rfl | 27, _ => k_c6 (List.mem_of_getElem? (i := 95) rfl) rfl | 28, _ => k_c6 (List.mem_of_getElem? (i := 97) rfl) rfl | 29, _ => k_c6 (List.mem_of_getElem? (i := 99) rfl) rfl | 30, _ => k_c6 (List.mem_of_getElem? (i := 101) rfl) rfl | 31, _ => k_c6 (List.mem_of_getElem? (i := 103) rfl) rfl | k + 32, h => absurd h (by omega)
set_option maxRecDepth 20000 in
theorem ft_X12 : iv_FT classes iv_W0 12 RX12 TX12 32 tyX12 := ⟨rfl, fun w hw => by obtain ⟨j, hj, rfl⟩ := List.mem_map.mp hw; exact in_X12 j (List.mem_range.mp hj), tyX12_ok, nmX12⟩
set_option maxRecDepth 20000 in
theorem k_mf_X0_init : iv_MF iv_W0 yX0_init cX0_init 3 none 2 := ⟨k_c2 (List.mem_of_getElem? (i := 131) rfl) rfl, k_c1 (List.mem_of_getElem? (i := 13) rfl) rfl, by decide +kernel⟩
set_option maxRecDepth 20000 in
theorem k_mf_X0_bringChild : iv_MF iv_W0 yX0_bringChild cX0_bringChild 3 none 2 := ⟨k_c3 (List.mem_of_getElem? (i := 155) rfl) rfl, k_c1 (List.mem_of_getElem? (i := 13) rfl) rfl, by decide +kernel⟩
set_option maxRecDepth 20000 in
theorem k_mf_X0_bringChildren : iv_MF iv_W0 yX0_bringChildren cX0_bringChildren 4 none 1 := ⟨k_c3 (List.mem_of_getElem? (i := 130) rfl) rfl, k_c1 (List.mem_of_getElem? (i := 13) rfl) rfl, by decide +kernel⟩
set_option maxRecDepth 20000 in
theorem k_mf_X0_firstHour : iv_MF iv_W0 yX0_firstHour cX0_firstHour 2 (some .int) 1 := ⟨k_c3 (List.mem_of_getElem? (i := 134) rfl) rfl, k_c1 (List.mem_of_getElem? (i := 13) rfl) rfl, by decide +kernel⟩
set_option maxRecDepth 20000 in
theorem k_mf_X0_passDay : iv_MF iv_W0 yX0_passDay cX0_passDay 5 none 0 := ⟨k_c3 (List.mem_of_getElem? (i := 62) rfl) rfl, k_c1 (List.mem_of_getElem? (i := 13) rfl) rfl, by decide +kernel⟩
set_option maxRecDepth 20000 in
theorem k_mf_X1_init : iv_MF iv_W0 yX1_init cX1_init 1 none 0 := ⟨k_c1 (List.mem_of_getElem? (i := 110) rfl) rfl, k_c1 (List.mem_of_getElem? (i := 8) rfl) rfl, by decide +kernel⟩
set_option maxRecDepth 20000 in
theorem k_mf_X1_become : iv_MF iv_W0 yX1_become cX1_become 2 none 1 := ⟨k_c5 (List.mem_of_getElem? (i := 230) rfl) rfl, k_c1 (List.mem_of_getElem? (i := 8) rfl) rfl, by decide +kernel⟩
set_option maxRecDepth 20000 in
theorem k_mf_X1_begin : iv_MF iv_W0 yX1_begin cX1_begin 5 none 4 := ⟨k_c2 (List.mem_of_getElem? (i := 237) rfl) rfl, k_c1 (List.mem_of_getElem? (i := 8) rfl) rfl, by decide +kernel⟩
set_option maxRecDepth 20000 in
theorem k_mf_X2_init : iv_MF iv_W0 yX2_init cX2_init 2 none 1 := ⟨k_c2 (List.mem_of_getElem? (i := 118) rfl) rfl, k_c1 (List.mem_of_getElem? (i := 12) rfl) rfl, by decide +kernel⟩
set_option maxRecDepth 20000 in
theorem k_mf_X2_calledTo : iv_MF iv_W0 yX2_calledTo cX2_calledTo 8 (some .int) 2 := ⟨k_c3 (List.mem_of_getElem? (i := 138) rfl) rfl, k_c1 (List.mem_of_getElem? (i := 12) rfl) rfl, by decide +kernel⟩
set_option maxRecDepth 20000 in
theorem k_mf_X2_clearHours : iv_MF iv_W0 yX2_clearHours cX2_clearHours 6 (some .int) 3 := ⟨k_c3 (List.mem_of_getElem? (i := 76) rfl) rfl, k_c1 (List.mem_of_getElem? (i := 12) rfl) rfl, by decide +kernel⟩
set_option maxRecDepth 20000 in
theorem k_mf_X2_comingOf : iv_MF iv_W0 yX2_comingOf cX2_comingOf 6 (some .int) 2 := ⟨k_c3 (List.mem_of_getElem? (i := 71) rfl) rfl, k_c1 (List.mem_of_getElem? (i := 12) rfl) rfl, by decide +kernel⟩
set_option maxRecDepth 20000 in
theorem k_mf_X2_doQuarrel : iv_MF iv_W0 yX2_doQuarrel cX2_doQuarrel 5 (some .boolean) 2 := ⟨k_c5 (List.mem_of_getElem? (i := 3) rfl) rfl, k_c1 (List.mem_of_getElem? (i := 12) rfl) rfl, by decide +kernel⟩
set_option maxRecDepth 20000 in
theorem k_mf_X2_drowningHours : iv_MF iv_W0 yX2_drowningHours cX2_drowningHours 9 (some .int) 4 := ⟨k_c3 (List.mem_of_getElem? (i := 87) rfl) rfl, k_c1 (List.mem_of_getElem? (i := 12) rfl) rfl, by decide +kernel⟩
set_option maxRecDepth 20000 in
theorem k_mf_X2_heardBells : iv_MF iv_W0 yX2_heardBells cX2_heardBells 6 (some .int) 3 := ⟨k_c4 (List.mem_of_getElem? (i := 196) rfl) rfl, k_c1 (List.mem_of_getElem? (i := 12) rfl) rfl, by decide +kernel⟩
set_option maxRecDepth 20000 in
theorem k_mf_X2_learn : iv_MF iv_W0 yX2_learn cX2_learn 3 none 1 := ⟨k_c3 (List.mem_of_getElem? (i := 100) rfl) rfl, k_c1 (List.mem_of_getElem? (i := 12) rfl) rfl, by decide +kernel⟩
set_option maxRecDepth 20000 in
theorem k_mf_X2_loudAt : iv_MF iv_W0 yX2_loudAt cX2_loudAt 4 (some .int) 3 := ⟨k_c3 (List.mem_of_getElem? (i := 151) rfl) rfl, k_c1 (List.mem_of_getElem? (i := 12) rfl) rfl, by decide +kernel⟩
set_option maxRecDepth 20000 in
theorem k_mf_X2_loudFrom : iv_MF iv_W0 yX2_loudFrom cX2_loudFrom 5 (some .int) 3 := ⟨k_c3 (List.mem_of_getElem? (i := 96) rfl) rfl, k_c1 (List.mem_of_getElem? (i := 12) rfl) rfl, by decide +kernel⟩
set_option maxRecDepth 20000 in
theorem k_mf_X3_init : iv_MF iv_W0 yX3_init cX3_init 8 none 6 := ⟨k_c1 (List.mem_of_getElem? (i := 66) rfl) rfl, k_c1 (List.mem_of_getElem? (i := 4) rfl) rfl, by decide +kernel⟩
set_option maxRecDepth 20000 in
theorem k_mf_X3_answer : iv_MF iv_W0 yX3_answer cX3_answer 6 (some .int) 3 := ⟨k_c3 (List.mem_of_getElem? (i := 104) rfl) rfl, k_c1 (List.mem_of_getElem? (i := 4) rfl) rfl, by decide +kernel⟩
set_option maxRecDepth 20000 in
theorem k_mf_X3_run : iv_MF iv_W0 yX3_run cX3_run 9 (some .int) 3 := ⟨k_c3 (List.mem_of_getElem? (i := 108) rfl) rfl, k_c1 (List.mem_of_getElem? (i := 4) rfl) rfl, by decide +kernel⟩
set_option maxRecDepth 20000 in
theorem k_mf_X3_withoutLines : iv_MF iv_W0 yX3_withoutLines cX3_withoutLines 1 (some (.object "UnbornBells$Law")) 0 := ⟨k_c1 (List.mem_of_getElem? (i := 61) rfl) rfl, k_c1 (List.mem_of_getElem? (i := 4) rfl) rfl, by decide +kernel⟩
set_option maxRecDepth 20000 in
theorem k_mf_X4_init : iv_MF iv_W0 yX4_init cX4_init 2 none 1 := ⟨k_c2 (List.mem_of_getElem? (i := 157) rfl) rfl, k_c1 (List.mem_of_getElem? (i := 15) rfl) rfl, by decide +kernel⟩
set_option maxRecDepth 20000 in
theorem k_mf_X4_canFollow : iv_MF iv_W0 yX4_canFollow cX4_canFollow 4 (some .boolean) 3 := ⟨k_c5 (List.mem_of_getElem? (i := 127) rfl) rfl, k_c1 (List.mem_of_getElem? (i := 15) rfl) rfl, by decide +kernel⟩
set_option maxRecDepth 20000 in
theorem k_mf_X4_canSit : iv_MF iv_W0 yX4_canSit cX4_canSit 5 (some .boolean) 4 := ⟨k_c5 (List.mem_of_getElem? (i := 40) rfl) rfl, k_c1 (List.mem_of_getElem? (i := 15) rfl) rfl, by decide +kernel⟩
set_option maxRecDepth 20000 in
theorem k_mf_X4_countPeals : iv_MF iv_W0 yX4_countPeals cX4_countPeals 5 (some .int) 1 := ⟨k_c5 (List.mem_of_getElem? (i := 115) rfl) rfl, k_c1 (List.mem_of_getElem? (i := 15) rfl) rfl, by decide +kernel⟩
set_option maxRecDepth 20000 in
theorem k_mf_X4_firstAfter : iv_MF iv_W0 yX4_firstAfter cX4_firstAfter 4 (some .int) 2 := ⟨k_c5 (List.mem_of_getElem? (i := 135) rfl) rfl, k_c1 (List.mem_of_getElem? (i := 15) rfl) rfl, by decide +kernel⟩
set_option maxRecDepth 20000 in
theorem k_mf_X4_gather : iv_MF iv_W0 yX4_gather cX4_gather 3 none 1 := ⟨k_c5 (List.mem_of_getElem? (i := 119) rfl) rfl, k_c1 (List.mem_of_getElem? (i := 15) rfl) rfl, by decide +kernel⟩
set_option maxRecDepth 20000 in
theorem k_mf_X4_hourOf : iv_MF iv_W0 yX4_hourOf cX4_hourOf 2 (some .int) 1 := ⟨k_c5 (List.mem_of_getElem? (i := 46) rfl) rfl, k_c1 (List.mem_of_getElem? (i := 15) rfl) rfl, by decide +kernel⟩
set_option maxRecDepth 20000 in
theorem k_mf_X4_inFirstPeal : iv_MF iv_W0 yX4_inFirstPeal cX4_inFirstPeal 5 (some .int) 1 := ⟨k_c5 (List.mem_of_getElem? (i := 131) rfl) rfl, k_c1 (List.mem_of_getElem? (i := 15) rfl) rfl, by decide +kernel⟩
set_option maxRecDepth 20000 in
theorem k_mf_X4_seatAll : iv_MF iv_W0 yX4_seatAll cX4_seatAll 2 (some .int) 0 := ⟨k_c5 (List.mem_of_getElem? (i := 33) rfl) rfl, k_c1 (List.mem_of_getElem? (i := 15) rfl) rfl, by decide +kernel⟩
set_option maxRecDepth 20000 in
theorem k_mf_X4_seatFrom : iv_MF iv_W0 yX4_seatFrom cX4_seatFrom 6 (some .boolean) 5 := ⟨k_c5 (List.mem_of_getElem? (i := 36) rfl) rfl, k_c1 (List.mem_of_getElem? (i := 15) rfl) rfl, by decide +kernel⟩
set_option maxRecDepth 20000 in
theorem k_mf_X4_waysAfter : iv_MF iv_W0 yX4_waysAfter cX4_waysAfter 5 (some .int) 2 := ⟨k_c5 (List.mem_of_getElem? (i := 123) rfl) rfl, k_c1 (List.mem_of_getElem? (i := 15) rfl) rfl, by decide +kernel⟩
set_option maxRecDepth 20000 in
theorem k_mf_X5_init : iv_MF iv_W0 yX5_init cX5_init 2 none 0 := ⟨k_c1 (List.mem_of_getElem? (i := 35) rfl) rfl, k_c1 (List.mem_of_getElem? (i := 2) rfl) rfl, by decide +kernel⟩
set_option maxRecDepth 20000 in
theorem k_mf_X5_areNear : iv_MF iv_W0 yX5_areNear cX5_areNear 3 (some .boolean) 2 := ⟨k_c3 (List.mem_of_getElem? (i := 80) rfl) rfl, k_c1 (List.mem_of_getElem? (i := 2) rfl) rfl, by decide +kernel⟩
set_option maxRecDepth 20000 in
theorem k_mf_X5_areOctaves : iv_MF iv_W0 yX5_areOctaves cX5_areOctaves 3 (some .boolean) 2 := ⟨k_c3 (List.mem_of_getElem? (i := 147) rfl) rfl, k_c1 (List.mem_of_getElem? (i := 2) rfl) rfl, by decide +kernel⟩
set_option maxRecDepth 20000 in
theorem k_mf_X5_bellsWithLineAt : iv_MF iv_W0 yX5_bellsWithLineAt cX5_bellsWithLineAt 4 (some .int) 1 := ⟨k_c5 (List.mem_of_getElem? (i := 199) rfl) rfl, k_c1 (List.mem_of_getElem? (i := 2) rfl) rfl, by decide +kernel⟩
set_option maxRecDepth 20000 in
theorem k_mf_X5_copyFrom : iv_MF iv_W0 yX5_copyFrom cX5_copyFrom 3 none 1 := ⟨k_c5 (List.mem_of_getElem? (i := 226) rfl) rfl, k_c1 (List.mem_of_getElem? (i := 2) rfl) rfl, by decide +kernel⟩
set_option maxRecDepth 20000 in
theorem k_mf_X5_distance : iv_MF iv_W0 yX5_distance cX5_distance 3 (some .int) 2 := ⟨k_c3 (List.mem_of_getElem? (i := 91) rfl) rfl, k_c1 (List.mem_of_getElem? (i := 2) rfl) rfl, by decide +kernel⟩
set_option maxRecDepth 20000 in
theorem k_mf_X5_draw : iv_MF iv_W0 yX5_draw cX5_draw 2 (some .int) 1 := ⟨k_c3 (List.mem_of_getElem? (i := 124) rfl) rfl, k_c1 (List.mem_of_getElem? (i := 2) rfl) rfl, by decide +kernel⟩
set_option maxRecDepth 20000 in
theorem k_mf_X5_hasBell : iv_MF iv_W0 yX5_hasBell cX5_hasBell 2 (some .boolean) 1 := ⟨k_c3 (List.mem_of_getElem? (i := 9) rfl) rfl, k_c1 (List.mem_of_getElem? (i := 2) rfl) rfl, by decide +kernel⟩
set_option maxRecDepth 20000 in
theorem k_mf_X5_howManySound : iv_MF iv_W0 yX5_howManySound cX5_howManySound 4 (some .int) 1 := ⟨k_c4 (List.mem_of_getElem? (i := 208) rfl) rfl, k_c1 (List.mem_of_getElem? (i := 2) rfl) rfl, by decide +kernel⟩
set_option maxRecDepth 20000 in
theorem k_mf_X5_isRung : iv_MF iv_W0 yX5_isRung cX5_isRung 2 (some .boolean) 1 := ⟨k_c4 (List.mem_of_getElem? (i := 230) rfl) rfl, k_c1 (List.mem_of_getElem? (i := 2) rfl) rfl, by decide +kernel⟩
set_option maxRecDepth 20000 in
theorem k_mf_X5_isSetOfBells : iv_MF iv_W0 yX5_isSetOfBells cX5_isSetOfBells 2 (some .boolean) 1 := ⟨k_c5 (List.mem_of_getElem? (i := 93) rfl) rfl, k_c1 (List.mem_of_getElem? (i := 2) rfl) rfl, by decide +kernel⟩
set_option maxRecDepth 20000 in
theorem k_mf_X5_silentFrom : iv_MF iv_W0 yX5_silentFrom cX5_silentFrom 3 (some .int) 1 := ⟨k_c4 (List.mem_of_getElem? (i := 204) rfl) rfl, k_c1 (List.mem_of_getElem? (i := 2) rfl) rfl, by decide +kernel⟩
set_option maxRecDepth 20000 in
theorem k_mf_X5_soundsAt : iv_MF iv_W0 yX5_soundsAt cX5_soundsAt 3 (some .boolean) 2 := ⟨k_c3 (List.mem_of_getElem? (i := 142) rfl) rfl, k_c1 (List.mem_of_getElem? (i := 2) rfl) rfl, by decide +kernel⟩
set_option maxRecDepth 20000 in
theorem k_mf_X5_soundsIn : iv_MF iv_W0 yX5_soundsIn cX5_soundsIn 2 (some .int) 1 := ⟨k_c3 (List.mem_of_getElem? (i := 66) rfl) rfl, k_c1 (List.mem_of_getElem? (i := 2) rfl) rfl, by decide +kernel⟩
set_option maxRecDepth 20000 in
theorem k_mf_X6_init : iv_MF iv_W0 yX6_init cX6_init 1 none 0 := ⟨k_c2 (List.mem_of_getElem? (i := 19) rfl) rfl, k_c1 (List.mem_of_getElem? (i := 9) rfl) rfl, by decide +kernel⟩
set_option maxRecDepth 20000 in
theorem k_mf_X6_forget : iv_MF iv_W0 yX6_forget cX6_forget 1 none 0 := ⟨k_c2 (List.mem_of_getElem? (i := 219) rfl) rfl, k_c1 (List.mem_of_getElem? (i := 9) rfl) rfl, by decide +kernel⟩
set_option maxRecDepth 20000 in
theorem k_mf_X6_giveBack : iv_MF iv_W0 yX6_giveBack cX6_giveBack 5 (some .boolean) 1 := ⟨k_c5 (List.mem_of_getElem? (i := 216) rfl) rfl, k_c1 (List.mem_of_getElem? (i := 9) rfl) rfl, by decide +kernel⟩
set_option maxRecDepth 20000 in
theorem k_mf_X6_keep : iv_MF iv_W0 yX6_keep cX6_keep 5 none 1 := ⟨k_c3 (List.mem_of_getElem? (i := 21) rfl) rfl, k_c1 (List.mem_of_getElem? (i := 9) rfl) rfl, by decide +kernel⟩
set_option maxRecDepth 20000 in
theorem k_mf_X7_init : iv_MF iv_W0 yX7_init cX7_init 1 none 0 := ⟨k_c2 (List.mem_of_getElem? (i := 38) rfl) rfl, k_c1 (List.mem_of_getElem? (i := 10) rfl) rfl, by decide +kernel⟩
set_option maxRecDepth 20000 in
theorem k_mf_X7_begin : iv_MF iv_W0 yX7_begin cX7_begin 3 none 2 := ⟨k_c3 (List.mem_of_getElem? (i := 185) rfl) rfl, k_c1 (List.mem_of_getElem? (i := 10) rfl) rfl, by decide +kernel⟩
set_option maxRecDepth 20000 in
theorem k_mf_X7_emit : iv_MF iv_W0 yX7_emit cX7_emit 3 none 2 := ⟨k_c4 (List.mem_of_getElem? (i := 120) rfl) rfl, k_c1 (List.mem_of_getElem? (i := 10) rfl) rfl, by decide +kernel⟩
set_option maxRecDepth 20000 in
theorem k_mf_X7_emitWaiting : iv_MF iv_W0 yX7_emitWaiting cX7_emitWaiting 2 none 1 := ⟨k_c4 (List.mem_of_getElem? (i := 127) rfl) rfl, k_c1 (List.mem_of_getElem? (i := 10) rfl) rfl, by decide +kernel⟩
set_option maxRecDepth 20000 in
theorem k_mf_X7_forgetFault : iv_MF iv_W0 yX7_forgetFault cX7_forgetFault 1 none 0 := ⟨k_c3 (List.mem_of_getElem? (i := 177) rfl) rfl, k_c1 (List.mem_of_getElem? (i := 10) rfl) rfl, by decide +kernel⟩
set_option maxRecDepth 20000 in
theorem k_mf_X7_isSignOfSums : iv_MF iv_W0 yX7_isSignOfSums cX7_isSignOfSums 1 (some .boolean) 1 := ⟨k_c4 (List.mem_of_getElem? (i := 123) rfl) rfl, k_c1 (List.mem_of_getElem? (i := 10) rfl) rfl, by decide +kernel⟩
set_option maxRecDepth 20000 in
theorem k_mf_X7_readBracket : iv_MF iv_W0 yX7_readBracket cX7_readBracket 2 (some .boolean) 1 := ⟨k_c4 (List.mem_of_getElem? (i := 139) rfl) rfl, k_c1 (List.mem_of_getElem? (i := 10) rfl) rfl, by decide +kernel⟩
set_option maxRecDepth 20000 in
theorem k_mf_X7_readChoice : iv_MF iv_W0 yX7_readChoice cX7_readChoice 6 (some .boolean) 1 := ⟨k_c4 (List.mem_of_getElem? (i := 131) rfl) rfl, k_c1 (List.mem_of_getElem? (i := 10) rfl) rfl, by decide +kernel⟩
set_option maxRecDepth 20000 in
theorem k_mf_X7_readClaim : iv_MF iv_W0 yX7_readClaim cX7_readClaim 5 (some .boolean) 1 := ⟨k_c4 (List.mem_of_getElem? (i := 135) rfl) rfl, k_c1 (List.mem_of_getElem? (i := 10) rfl) rfl, by decide +kernel⟩
set_option maxRecDepth 20000 in
theorem k_mf_X7_readComparison : iv_MF iv_W0 yX7_readComparison cX7_readComparison 2 (some .boolean) 0 := ⟨k_c4 (List.mem_of_getElem? (i := 143) rfl) rfl, k_c1 (List.mem_of_getElem? (i := 10) rfl) rfl, by decide +kernel⟩
set_option maxRecDepth 20000 in
theorem k_mf_X7_readHourLine : iv_MF iv_W0 yX7_readHourLine cX7_readHourLine 6 (some .boolean) 1 := ⟨k_c4 (List.mem_of_getElem? (i := 87) rfl) rfl, k_c1 (List.mem_of_getElem? (i := 10) rfl) rfl, by decide +kernel⟩
set_option maxRecDepth 20000 in
theorem k_mf_X7_readHours : iv_MF iv_W0 yX7_readHours cX7_readHours 6 (some .boolean) 3 := ⟨k_c3 (List.mem_of_getElem? (i := 181) rfl) rfl, k_c1 (List.mem_of_getElem? (i := 10) rfl) rfl, by decide +kernel⟩
set_option maxRecDepth 20000 in
theorem k_mf_X7_readLaw : iv_MF iv_W0 yX7_readLaw cX7_readLaw 6 (some .boolean) 3 := ⟨k_c4 (List.mem_of_getElem? (i := 104) rfl) rfl, k_c1 (List.mem_of_getElem? (i := 10) rfl) rfl, by decide +kernel⟩
set_option maxRecDepth 20000 in
theorem k_mf_X7_readLawLine : iv_MF iv_W0 yX7_readLawLine cX7_readLawLine 2 (some .boolean) 0 := ⟨k_c4 (List.mem_of_getElem? (i := 108) rfl) rfl, k_c1 (List.mem_of_getElem? (i := 10) rfl) rfl, by decide +kernel⟩
set_option maxRecDepth 20000 in
theorem k_mf_X7_readSum : iv_MF iv_W0 yX7_readSum cX7_readSum 6 (some .boolean) 0 := ⟨k_c4 (List.mem_of_getElem? (i := 112) rfl) rfl, k_c1 (List.mem_of_getElem? (i := 10) rfl) rfl, by decide +kernel⟩
set_option maxRecDepth 20000 in
theorem k_mf_X7_readUnit : iv_MF iv_W0 yX7_readUnit cX7_readUnit 3 (some .boolean) 0 := ⟨k_c4 (List.mem_of_getElem? (i := 116) rfl) rfl, k_c1 (List.mem_of_getElem? (i := 10) rfl) rfl, by decide +kernel⟩
set_option maxRecDepth 20000 in
theorem k_mf_X7_refuse : iv_MF iv_W0 yX7_refuse cX7_refuse 2 (some .boolean) 1 := ⟨k_c4 (List.mem_of_getElem? (i := 91) rfl) rfl, k_c1 (List.mem_of_getElem? (i := 10) rfl) rfl, by decide +kernel⟩
set_option maxRecDepth 20000 in
theorem k_mf_X7_step : iv_MF iv_W0 yX7_step cX7_step 1 none 0 := ⟨k_c4 (List.mem_of_getElem? (i := 80) rfl) rfl, k_c1 (List.mem_of_getElem? (i := 10) rfl) rfl, by decide +kernel⟩
set_option maxRecDepth 20000 in
theorem k_mf_X7_takes : iv_MF iv_W0 yX7_takes cX7_takes 2 (some .boolean) 1 := ⟨k_c4 (List.mem_of_getElem? (i := 95) rfl) rfl, k_c1 (List.mem_of_getElem? (i := 10) rfl) rfl, by decide +kernel⟩
set_option maxRecDepth 20000 in
theorem k_mf_X7_takesNumber : iv_MF iv_W0 yX7_takesNumber cX7_takesNumber 3 (some .boolean) 2 := ⟨k_c4 (List.mem_of_getElem? (i := 99) rfl) rfl, k_c1 (List.mem_of_getElem? (i := 10) rfl) rfl, by decide +kernel⟩
set_option maxRecDepth 20000 in
theorem k_mf_X8_init : iv_MF iv_W0 yX8_init cX8_init 3 none 2 := ⟨k_c1 (List.mem_of_getElem? (i := 43) rfl) rfl, k_c1 (List.mem_of_getElem? (i := 3) rfl) rfl, by decide +kernel⟩
set_option maxRecDepth 20000 in
theorem k_mf_X8_add : iv_MF iv_W0 yX8_add cX8_add 5 none 4 := ⟨k_c3 (List.mem_of_getElem? (i := 35) rfl) rfl, k_c1 (List.mem_of_getElem? (i := 3) rfl) rfl, by decide +kernel⟩
set_option maxRecDepth 20000 in
theorem k_mf_X8_at : iv_MF iv_W0 yX8_at cX8_at 3 (some .int) 2 := ⟨k_c3 (List.mem_of_getElem? (i := 26) rfl) rfl, k_c1 (List.mem_of_getElem? (i := 3) rfl) rfl, by decide +kernel⟩
set_option maxRecDepth 20000 in
theorem k_mf_X8_become : iv_MF iv_W0 yX8_become cX8_become 2 none 1 := ⟨k_c5 (List.mem_of_getElem? (i := 236) rfl) rfl, k_c1 (List.mem_of_getElem? (i := 3) rfl) rfl, by decide +kernel⟩
set_option maxRecDepth 20000 in
theorem k_mf_X8_change : iv_MF iv_W0 yX8_change cX8_change 4 none 3 := ⟨k_c3 (List.mem_of_getElem? (i := 43) rfl) rfl, k_c1 (List.mem_of_getElem? (i := 3) rfl) rfl, by decide +kernel⟩
set_option maxRecDepth 20000 in
theorem k_mf_X8_cut : iv_MF iv_W0 yX8_cut cX8_cut 2 none 1 := ⟨k_c5 (List.mem_of_getElem? (i := 178) rfl) rfl, k_c1 (List.mem_of_getElem? (i := 3) rfl) rfl, by decide +kernel⟩
set_option maxRecDepth 20000 in
theorem k_mf_X8_has : iv_MF iv_W0 yX8_has cX8_has 2 (some .boolean) 1 := ⟨k_c3 (List.mem_of_getElem? (i := 30) rfl) rfl, k_c1 (List.mem_of_getElem? (i := 3) rfl) rfl, by decide +kernel⟩
set_option maxRecDepth 20000 in
theorem k_mf_X8_isFull : iv_MF iv_W0 yX8_isFull cX8_isFull 1 (some .boolean) 0 := ⟨k_c3 (List.mem_of_getElem? (i := 39) rfl) rfl, k_c1 (List.mem_of_getElem? (i := 3) rfl) rfl, by decide +kernel⟩
set_option maxRecDepth 20000 in
theorem k_mf_X9_init : iv_MF iv_W0 yX9_init cX9_init 2 none 1 := ⟨k_c2 (List.mem_of_getElem? (i := 144) rfl) rfl, k_c1 (List.mem_of_getElem? (i := 14) rfl) rfl, by decide +kernel⟩
set_option maxRecDepth 20000 in
theorem k_mf_X9_canMelt : iv_MF iv_W0 yX9_canMelt cX9_canMelt 3 (some .boolean) 1 := ⟨k_c5 (List.mem_of_getElem? (i := 59) rfl) rfl, k_c1 (List.mem_of_getElem? (i := 14) rfl) rfl, by decide +kernel⟩
set_option maxRecDepth 20000 in
theorem k_mf_X9_canRaise : iv_MF iv_W0 yX9_canRaise cX9_canRaise 4 (some .boolean) 2 := ⟨k_c5 (List.mem_of_getElem? (i := 97) rfl) rfl, k_c1 (List.mem_of_getElem? (i := 14) rfl) rfl, by decide +kernel⟩
set_option maxRecDepth 20000 in
theorem k_mf_X9_doesFit : iv_MF iv_W0 yX9_doesFit cX9_doesFit 5 (some .boolean) 2 := ⟨k_c5 (List.mem_of_getElem? (i := 191) rfl) rfl, k_c1 (List.mem_of_getElem? (i := 14) rfl) rfl, by decide +kernel⟩
set_option maxRecDepth 20000 in
theorem k_mf_X9_fitting : iv_MF iv_W0 yX9_fitting cX9_fitting 4 (some .int) 1 := ⟨k_c5 (List.mem_of_getElem? (i := 187) rfl) rfl, k_c1 (List.mem_of_getElem? (i := 14) rfl) rfl, by decide +kernel⟩
set_option maxRecDepth 20000 in
theorem k_mf_X9_hopeOf : iv_MF iv_W0 yX9_hopeOf cX9_hopeOf 4 (some .int) 1 := ⟨k_c5 (List.mem_of_getElem? (i := 71) rfl) rfl, k_c1 (List.mem_of_getElem? (i := 14) rfl) rfl, by decide +kernel⟩
set_option maxRecDepth 20000 in
theorem k_mf_X9_isFreeAt : iv_MF iv_W0 yX9_isFreeAt cX9_isFreeAt 5 (some .boolean) 2 := ⟨k_c5 (List.mem_of_getElem? (i := 101) rfl) rfl, k_c1 (List.mem_of_getElem? (i := 14) rfl) rfl, by decide +kernel⟩
set_option maxRecDepth 20000 in
theorem k_mf_X9_isLessHarm : iv_MF iv_W0 yX9_isLessHarm cX9_isLessHarm 5 (some .boolean) 2 := ⟨k_c5 (List.mem_of_getElem? (i := 67) rfl) rfl, k_c1 (List.mem_of_getElem? (i := 14) rfl) rfl, by decide +kernel⟩
set_option maxRecDepth 20000 in
theorem k_mf_X9_isPitchThere : iv_MF iv_W0 yX9_isPitchThere cX9_isPitchThere 3 (some .boolean) 1 := ⟨k_c5 (List.mem_of_getElem? (i := 85) rfl) rfl, k_c1 (List.mem_of_getElem? (i := 14) rfl) rfl, by decide +kernel⟩
set_option maxRecDepth 20000 in
theorem k_mf_X9_isWrong : iv_MF iv_W0 yX9_isWrong cX9_isWrong 2 (some .boolean) 1 := ⟨k_c5 (List.mem_of_getElem? (i := 156) rfl) rfl, k_c1 (List.mem_of_getElem? (i := 14) rfl) rfl, by decide +kernel⟩
set_option maxRecDepth 20000 in
theorem k_mf_X9_leastHarm : iv_MF iv_W0 yX9_leastHarm cX9_leastHarm 4 (some .int) 1 := ⟨k_c5 (List.mem_of_getElem? (i := 55) rfl) rfl, k_c1 (List.mem_of_getElem? (i := 14) rfl) rfl, by decide +kernel⟩
set_option maxRecDepth 20000 in
theorem k_mf_X9_partnerOf : iv_MF iv_W0 yX9_partnerOf cX9_partnerOf 4 (some .int) 1 := ⟨k_c5 (List.mem_of_getElem? (i := 165) rfl) rfl, k_c1 (List.mem_of_getElem? (i := 14) rfl) rfl, by decide +kernel⟩
set_option maxRecDepth 20000 in
theorem k_mf_X9_rememberCame : iv_MF iv_W0 yX9_rememberCame cX9_rememberCame 2 none 0 := ⟨k_c5 (List.mem_of_getElem? (i := 147) rfl) rfl, k_c1 (List.mem_of_getElem? (i := 14) rfl) rfl, by decide +kernel⟩
set_option maxRecDepth 20000 in
theorem k_mf_X9_rightThen : iv_MF iv_W0 yX9_rightThen cX9_rightThen 1 (some .int) 0 := ⟨k_c5 (List.mem_of_getElem? (i := 169) rfl) rfl, k_c1 (List.mem_of_getElem? (i := 14) rfl) rfl, by decide +kernel⟩
set_option maxRecDepth 20000 in
theorem k_mf_X9_rowFrom : iv_MF iv_W0 yX9_rowFrom cX9_rowFrom 4 (some .int) 2 := ⟨k_c5 (List.mem_of_getElem? (i := 81) rfl) rfl, k_c1 (List.mem_of_getElem? (i := 14) rfl) rfl, by decide +kernel⟩
set_option maxRecDepth 20000 in
theorem k_mf_X9_swapsToRight : iv_MF iv_W0 yX9_swapsToRight cX9_swapsToRight 5 (some .int) 0 := ⟨k_c5 (List.mem_of_getElem? (i := 161) rfl) rfl, k_c1 (List.mem_of_getElem? (i := 14) rfl) rfl, by decide +kernel⟩
set_option maxRecDepth 20000 in
theorem k_mf_X9_weightOf : iv_MF iv_W0 yX9_weightOf cX9_weightOf 4 (some .int) 1 := ⟨k_c5 (List.mem_of_getElem? (i := 63) rfl) rfl, k_c1 (List.mem_of_getElem? (i := 14) rfl) rfl, by decide +kernel⟩
set_option maxRecDepth 20000 in
theorem k_mf_X9_wrongChildren : iv_MF iv_W0 yX9_wrongChildren cX9_wrongChildren 3 (some .int) 0 := ⟨k_c5 (List.mem_of_getElem? (i := 152) rfl) rfl, k_c1 (List.mem_of_getElem? (i := 14) rfl) rfl, by decide +kernel⟩
set_option maxRecDepth 20000 in
theorem k_mf_X9_wrongNow : iv_MF iv_W0 yX9_wrongNow cX9_wrongNow 1 (some .int) 0 := ⟨k_c5 (List.mem_of_getElem? (i := 143) rfl) rfl, k_c1 (List.mem_of_getElem? (i := 14) rfl) rfl, by decide +kernel⟩
set_option maxRecDepth 20000 in
theorem k_mf_X10_init : iv_MF iv_W0 yX10_init cX10_init 1 none 0 := ⟨k_c2 (List.mem_of_getElem? (i := 44) rfl) rfl, k_c1 (List.mem_of_getElem? (i := 11) rfl) rfl, by decide +kernel⟩
set_option maxRecDepth 20000 in
theorem k_mf_X10_behindToken : iv_MF iv_W0 yX10_behindToken cX10_behindToken 4 (some .int) 3 := ⟨k_c3 (List.mem_of_getElem? (i := 201) rfl) rfl, k_c1 (List.mem_of_getElem? (i := 11) rfl) rfl, by decide +kernel⟩
set_option maxRecDepth 20000 in
theorem k_mf_X10_goesOn : iv_MF iv_W0 yX10_goesOn cX10_goesOn 3 (some .boolean) 2 := ⟨k_c3 (List.mem_of_getElem? (i := 192) rfl) rfl, k_c1 (List.mem_of_getElem? (i := 11) rfl) rfl, by decide +kernel⟩
set_option maxRecDepth 20000 in
theorem k_mf_X10_isDigit : iv_MF iv_W0 yX10_isDigit cX10_isDigit 1 (some .boolean) 1 := ⟨k_c3 (List.mem_of_getElem? (i := 198) rfl) rfl, k_c1 (List.mem_of_getElem? (i := 11) rfl) rfl, by decide +kernel⟩
set_option maxRecDepth 20000 in
theorem k_mf_X10_isLetter : iv_MF iv_W0 yX10_isLetter cX10_isLetter 1 (some .boolean) 1 := ⟨k_c3 (List.mem_of_getElem? (i := 195) rfl) rfl, k_c1 (List.mem_of_getElem? (i := 11) rfl) rfl, by decide +kernel⟩
set_option maxRecDepth 20000 in
theorem k_mf_X10_kindOf : iv_MF iv_W0 yX10_kindOf cX10_kindOf 4 (some .int) 3 := ⟨k_c3 (List.mem_of_getElem? (i := 204) rfl) rfl, k_c1 (List.mem_of_getElem? (i := 11) rfl) rfl, by decide +kernel⟩
set_option maxRecDepth 20000 in
theorem k_mf_X10_numberOf : iv_MF iv_W0 yX10_numberOf cX10_numberOf 5 (some .int) 3 := ⟨k_c4 (List.mem_of_getElem? (i := 75) rfl) rfl, k_c1 (List.mem_of_getElem? (i := 11) rfl) rfl, by decide +kernel⟩
set_option maxRecDepth 20000 in
theorem k_mf_X10_read : iv_MF iv_W0 yX10_read cX10_read 7 none 2 := ⟨k_c3 (List.mem_of_getElem? (i := 189) rfl) rfl, k_c1 (List.mem_of_getElem? (i := 11) rfl) rfl, by decide +kernel⟩
set_option maxRecDepth 20000 in
theorem k_mf_X10_wordOf : iv_MF iv_W0 yX10_wordOf cX10_wordOf 8 (some .int) 3 := ⟨k_c3 (List.mem_of_getElem? (i := 207) rfl) rfl, k_c1 (List.mem_of_getElem? (i := 11) rfl) rfl, by decide +kernel⟩
set_option maxRecDepth 20000 in
theorem k_mf_X11_init : iv_MF iv_W0 yX11_init cX11_init 1 none 0 := ⟨k_c1 (List.mem_of_getElem? (i := 27) rfl) rfl, k_c1 (List.mem_of_getElem? (i := 1) rfl) rfl, by decide +kernel⟩
set_option maxRecDepth 20000 in
theorem k_mf_X11_ask : iv_MF iv_W0 yX11_ask cX11_ask 8 (some .int) 1 := ⟨k_c5 (List.mem_of_getElem? (i := 195) rfl) rfl, k_c1 (List.mem_of_getElem? (i := 1) rfl) rfl, by decide +kernel⟩
set_option maxRecDepth 20000 in
theorem k_mf_X11_astray : iv_MF iv_W0 yX11_astray cX11_astray 3 (some .int) 2 := ⟨k_c4 (List.mem_of_getElem? (i := 178) rfl) rfl, k_c1 (List.mem_of_getElem? (i := 1) rfl) rfl, by decide +kernel⟩
set_option maxRecDepth 20000 in
theorem k_mf_X11_bell : iv_MF iv_W0 yX11_bell cX11_bell 6 (some .int) 4 := ⟨k_c2 (List.mem_of_getElem? (i := 233) rfl) rfl, k_c1 (List.mem_of_getElem? (i := 1) rfl) rfl, by decide +kernel⟩
set_option maxRecDepth 20000 in
theorem k_mf_X11_book : iv_MF iv_W0 yX11_book cX11_book 3 (some .int) 2 := ⟨k_c4 (List.mem_of_getElem? (i := 188) rfl) rfl, k_c1 (List.mem_of_getElem? (i := 1) rfl) rfl, by decide +kernel⟩
set_option maxRecDepth 20000 in
theorem k_mf_X11_child : iv_MF iv_W0 yX11_child cX11_child 3 (some .int) 2 := ⟨k_c4 (List.mem_of_getElem? (i := 184) rfl) rfl, k_c1 (List.mem_of_getElem? (i := 1) rfl) rfl, by decide +kernel⟩
set_option maxRecDepth 20000 in
theorem k_mf_X11_chorus : iv_MF iv_W0 yX11_chorus cX11_chorus 8 (some .int) 3 := ⟨k_c4 (List.mem_of_getElem? (i := 221) rfl) rfl, k_c1 (List.mem_of_getElem? (i := 1) rfl) rfl, by decide +kernel⟩
set_option maxRecDepth 20000 in
theorem k_mf_X11_chosen : iv_MF iv_W0 yX11_chosen cX11_chosen 3 (some .int) 3 := ⟨k_c4 (List.mem_of_getElem? (i := 212) rfl) rfl, k_c1 (List.mem_of_getElem? (i := 1) rfl) rfl, by decide +kernel⟩
set_option maxRecDepth 20000 in
theorem k_mf_X11_days : iv_MF iv_W0 yX11_days cX11_days 4 (some .int) 1 := ⟨k_c3 (List.mem_of_getElem? (i := 58) rfl) rfl, k_c1 (List.mem_of_getElem? (i := 1) rfl) rfl, by decide +kernel⟩
set_option maxRecDepth 20000 in
theorem k_mf_X11_eldest : iv_MF iv_W0 yX11_eldest cX11_eldest 4 (some .int) 2 := ⟨k_c5 (List.mem_of_getElem? (i := 203) rfl) rfl, k_c1 (List.mem_of_getElem? (i := 1) rfl) rfl, by decide +kernel⟩
set_option maxRecDepth 20000 in
theorem k_mf_X11_end : iv_MF iv_W0 yX11_end cX11_end 2 (some .boolean) 1 := ⟨k_c3 (List.mem_of_getElem? (i := 169) rfl) rfl, k_c1 (List.mem_of_getElem? (i := 1) rfl) rfl, by decide +kernel⟩
set_option maxRecDepth 20000 in
theorem k_mf_X11_far : iv_MF iv_W0 yX11_far cX11_far 4 (some .boolean) 3 := ⟨k_c2 (List.mem_of_getElem? (i := 223) rfl) rfl, k_c1 (List.mem_of_getElem? (i := 1) rfl) rfl, by decide +kernel⟩
set_option maxRecDepth 20000 in
theorem k_mf_X11_fault : iv_MF iv_W0 yX11_fault cX11_fault 2 (some .int) 1 := ⟨k_c4 (List.mem_of_getElem? (i := 159) rfl) rfl, k_c1 (List.mem_of_getElem? (i := 1) rfl) rfl, by decide +kernel⟩
set_option maxRecDepth 20000 in
theorem k_mf_X11_feed : iv_MF iv_W0 yX11_feed cX11_feed 6 (some .int) 5 := ⟨k_c3 (List.mem_of_getElem? (i := 161) rfl) rfl, k_c1 (List.mem_of_getElem? (i := 1) rfl) rfl, by decide +kernel⟩
set_option maxRecDepth 20000 in
theorem k_mf_X11_fits : iv_MF iv_W0 yX11_fits cX11_fits 2 (some .int) 1 := ⟨k_c5 (List.mem_of_getElem? (i := 183) rfl) rfl, k_c1 (List.mem_of_getElem? (i := 1) rfl) rfl, by decide +kernel⟩
set_option maxRecDepth 20000 in
theorem k_mf_X11_free : iv_MF iv_W0 yX11_free cX11_free 2 (some .int) 1 := ⟨k_c4 (List.mem_of_getElem? (i := 226) rfl) rfl, k_c1 (List.mem_of_getElem? (i := 1) rfl) rfl, by decide +kernel⟩
set_option maxRecDepth 20000 in
theorem k_mf_X11_heard : iv_MF iv_W0 yX11_heard cX11_heard 4 (some .int) 3 := ⟨k_c4 (List.mem_of_getElem? (i := 192) rfl) rfl, k_c1 (List.mem_of_getElem? (i := 1) rfl) rfl, by decide +kernel⟩
set_option maxRecDepth 20000 in
theorem k_mf_X11_hopes : iv_MF iv_W0 yX11_hopes cX11_hopes 4 (some .int) 1 := ⟨k_c5 (List.mem_of_getElem? (i := 25) rfl) rfl, k_c1 (List.mem_of_getElem? (i := 1) rfl) rfl, by decide +kernel⟩
set_option maxRecDepth 20000 in
theorem k_mf_X11_image : iv_MF iv_W0 yX11_image cX11_image 2 (some .boolean) 1 := ⟨k_c5 (List.mem_of_getElem? (i := 222) rfl) rfl, k_c1 (List.mem_of_getElem? (i := 1) rfl) rfl, by decide +kernel⟩
set_option maxRecDepth 20000 in
theorem k_mf_X11_isHour : iv_MF iv_W0 yX11_isHour cX11_isHour 1 (some .boolean) 1 := ⟨k_c4 (List.mem_of_getElem? (i := 173) rfl) rfl, k_c1 (List.mem_of_getElem? (i := 1) rfl) rfl, by decide +kernel⟩
set_option maxRecDepth 20000 in
theorem k_mf_X11_isSetForAll : iv_MF iv_W0 yX11_isSetForAll cX11_isSetForAll 3 (some .boolean) 2 := ⟨k_c3 (List.mem_of_getElem? (i := 13) rfl) rfl, k_c1 (List.mem_of_getElem? (i := 1) rfl) rfl, by decide +kernel⟩
set_option maxRecDepth 20000 in
theorem k_mf_X11_isSetForBell : iv_MF iv_W0 yX11_isSetForBell cX11_isSetForBell 5 (some .boolean) 3 := ⟨k_c3 (List.mem_of_getElem? (i := 5) rfl) rfl, k_c1 (List.mem_of_getElem? (i := 1) rfl) rfl, by decide +kernel⟩
set_option maxRecDepth 20000 in
theorem k_mf_X11_isTower : iv_MF iv_W0 yX11_isTower cX11_isTower 1 (some .boolean) 1 := ⟨k_c2 (List.mem_of_getElem? (i := 226) rfl) rfl, k_c1 (List.mem_of_getElem? (i := 1) rfl) rfl, by decide +kernel⟩
set_option maxRecDepth 20000 in
theorem k_mf_X11_isWithin : iv_MF iv_W0 yX11_isWithin cX11_isWithin 3 (some .boolean) 3 := ⟨k_c2 (List.mem_of_getElem? (i := 229) rfl) rfl, k_c1 (List.mem_of_getElem? (i := 1) rfl) rfl, by decide +kernel⟩
set_option maxRecDepth 20000 in
theorem k_mf_X11_late : iv_MF iv_W0 yX11_late cX11_late 6 (some .int) 2 := ⟨k_c5 (List.mem_of_getElem? (i := 16) rfl) rfl, k_c1 (List.mem_of_getElem? (i := 1) rfl) rfl, by decide +kernel⟩
set_option maxRecDepth 20000 in
theorem k_mf_X11_likeliest : iv_MF iv_W0 yX11_likeliest cX11_likeliest 5 (some .int) 0 := ⟨k_c5 (List.mem_of_getElem? (i := 7) rfl) rfl, k_c1 (List.mem_of_getElem? (i := 1) rfl) rfl, by decide +kernel⟩
set_option maxRecDepth 20000 in
theorem k_mf_X11_look : iv_MF iv_W0 yX11_look cX11_look 2 (some .int) 1 := ⟨k_c6 (List.mem_of_getElem? (i := 2) rfl) rfl, k_c1 (List.mem_of_getElem? (i := 1) rfl) rfl, by decide +kernel⟩
set_option maxRecDepth 20000 in
theorem k_mf_X11_loud : iv_MF iv_W0 yX11_loud cX11_loud 4 (some .int) 3 := ⟨k_c4 (List.mem_of_getElem? (i := 170) rfl) rfl, k_c1 (List.mem_of_getElem? (i := 1) rfl) rfl, by decide +kernel⟩
set_option maxRecDepth 20000 in
theorem k_mf_X11_louder : iv_MF iv_W0 yX11_louder cX11_louder 14 (some .int) 6 := ⟨k_c5 (List.mem_of_getElem? (i := 207) rfl) rfl, k_c1 (List.mem_of_getElem? (i := 1) rfl) rfl, by decide +kernel⟩
set_option maxRecDepth 20000 in
theorem k_mf_X11_melt : iv_MF iv_W0 yX11_melt cX11_melt 2 (some .boolean) 1 := ⟨k_c3 (List.mem_of_getElem? (i := 17) rfl) rfl, k_c1 (List.mem_of_getElem? (i := 1) rfl) rfl, by decide +kernel⟩
set_option maxRecDepth 20000 in
theorem k_mf_X11_melts : iv_MF iv_W0 yX11_melts cX11_melts 4 (some .int) 2 := ⟨k_c5 (List.mem_of_getElem? (i := 51) rfl) rfl, k_c1 (List.mem_of_getElem? (i := 1) rfl) rfl, by decide +kernel⟩
set_option maxRecDepth 20000 in
theorem k_mf_X11_muffle : iv_MF iv_W0 yX11_muffle cX11_muffle 4 (some .boolean) 2 := ⟨k_c3 (List.mem_of_getElem? (i := 47) rfl) rfl, k_c1 (List.mem_of_getElem? (i := 1) rfl) rfl, by decide +kernel⟩
set_option maxRecDepth 20000 in
theorem k_mf_X11_noneYet : iv_MF iv_W0 yX11_noneYet cX11_noneYet 5 (some .int) 1 := ⟨k_c5 (List.mem_of_getElem? (i := 21) rfl) rfl, k_c1 (List.mem_of_getElem? (i := 1) rfl) rfl, by decide +kernel⟩
set_option maxRecDepth 20000 in
theorem k_mf_X11_octaves : iv_MF iv_W0 yX11_octaves cX11_octaves 4 (some .int) 1 := ⟨k_c5 (List.mem_of_getElem? (i := 106) rfl) rfl, k_c1 (List.mem_of_getElem? (i := 1) rfl) rfl, by decide +kernel⟩
set_option maxRecDepth 20000 in
theorem k_mf_X11_of : iv_MF iv_W0 yX11_of cX11_of 4 (some .int) 2 := ⟨k_c4 (List.mem_of_getElem? (i := 163) rfl) rfl, k_c1 (List.mem_of_getElem? (i := 1) rfl) rfl, by decide +kernel⟩
set_option maxRecDepth 20000 in
theorem k_mf_X11_peals : iv_MF iv_W0 yX11_peals cX11_peals 4 (some .int) 2 := ⟨k_c5 (List.mem_of_getElem? (i := 111) rfl) rfl, k_c1 (List.mem_of_getElem? (i := 1) rfl) rfl, by decide +kernel⟩
set_option maxRecDepth 20000 in
theorem k_mf_X11_placed : iv_MF iv_W0 yX11_placed cX11_placed 6 (some .int) 1 := ⟨k_c4 (List.mem_of_getElem? (i := 235) rfl) rfl, k_c1 (List.mem_of_getElem? (i := 1) rfl) rfl, by decide +kernel⟩
set_option maxRecDepth 20000 in
theorem k_mf_X11_putNumber : iv_MF iv_W0 yX11_putNumber cX11_putNumber 3 none 1 := ⟨k_c3 (List.mem_of_getElem? (i := 165) rfl) rfl, k_c1 (List.mem_of_getElem? (i := 1) rfl) rfl, by decide +kernel⟩
set_option maxRecDepth 20000 in
theorem k_mf_X11_quarrels : iv_MF iv_W0 yX11_quarrels cX11_quarrels 7 (some .int) 1 := ⟨k_c4 (List.mem_of_getElem? (i := 239) rfl) rfl, k_c1 (List.mem_of_getElem? (i := 1) rfl) rfl, by decide +kernel⟩
set_option maxRecDepth 20000 in
theorem k_mf_X11_raised : iv_MF iv_W0 yX11_raised cX11_raised 3 (some .int) 1 := ⟨k_c5 (List.mem_of_getElem? (i := 89) rfl) rfl, k_c1 (List.mem_of_getElem? (i := 1) rfl) rfl, by decide +kernel⟩
set_option maxRecDepth 20000 in
theorem k_mf_X11_right : iv_MF iv_W0 yX11_right cX11_right 2 (some .int) 1 := ⟨k_c5 (List.mem_of_getElem? (i := 139) rfl) rfl, k_c1 (List.mem_of_getElem? (i := 1) rfl) rfl, by decide +kernel⟩
set_option maxRecDepth 20000 in
theorem k_mf_X11_ropes : iv_MF iv_W0 yX11_ropes cX11_ropes 6 (some .int) 1 := ⟨k_c4 (List.mem_of_getElem? (i := 216) rfl) rfl, k_c1 (List.mem_of_getElem? (i := 1) rfl) rfl, by decide +kernel⟩
set_option maxRecDepth 20000 in
theorem k_mf_X11_rows : iv_MF iv_W0 yX11_rows cX11_rows 4 (some .int) 2 := ⟨k_c5 (List.mem_of_getElem? (i := 29) rfl) rfl, k_c1 (List.mem_of_getElem? (i := 1) rfl) rfl, by decide +kernel⟩
set_option maxRecDepth 20000 in
theorem k_mf_X11_set : iv_MF iv_W0 yX11_set cX11_set 5 (some .boolean) 3 := ⟨k_c3 (List.mem_of_getElem? (i := 1) rfl) rfl, k_c1 (List.mem_of_getElem? (i := 1) rfl) rfl, by decide +kernel⟩
set_option maxRecDepth 20000 in
theorem k_mf_X11_siblings : iv_MF iv_W0 yX11_siblings cX11_siblings 7 (some .int) 2 := ⟨k_c5 (List.mem_of_getElem? (i := 77) rfl) rfl, k_c1 (List.mem_of_getElem? (i := 1) rfl) rfl, by decide +kernel⟩
set_option maxRecDepth 20000 in
theorem k_mf_X11_silence : iv_MF iv_W0 yX11_silence cX11_silence 6 (some .int) 1 := ⟨k_c4 (List.mem_of_getElem? (i := 200) rfl) rfl, k_c1 (List.mem_of_getElem? (i := 1) rfl) rfl, by decide +kernel⟩
set_option maxRecDepth 20000 in
theorem k_mf_X11_state : iv_MF iv_W0 yX11_state cX11_state 3 (some .int) 1 := ⟨k_c2 (List.mem_of_getElem? (i := 215) rfl) rfl, k_c1 (List.mem_of_getElem? (i := 1) rfl) rfl, by decide +kernel⟩
set_option maxRecDepth 20000 in
theorem k_mf_X11_stop : iv_MF iv_W0 yX11_stop cX11_stop 7 (some .int) 2 := ⟨k_c5 (List.mem_of_getElem? (i := 11) rfl) rfl, k_c1 (List.mem_of_getElem? (i := 1) rfl) rfl, by decide +kernel⟩
set_option maxRecDepth 20000 in
theorem k_mf_X11_swap : iv_MF iv_W0 yX11_swap cX11_swap 4 (some .boolean) 2 := ⟨k_c3 (List.mem_of_getElem? (i := 51) rfl) rfl, k_c1 (List.mem_of_getElem? (i := 1) rfl) rfl, by decide +kernel⟩
set_option maxRecDepth 20000 in
theorem k_mf_X11_takeHours : iv_MF iv_W0 yX11_takeHours cX11_takeHours 1 none 0 := ⟨k_c4 (List.mem_of_getElem? (i := 147) rfl) rfl, k_c1 (List.mem_of_getElem? (i := 1) rfl) rfl, by decide +kernel⟩
set_option maxRecDepth 20000 in
theorem k_mf_X11_takeLaw : iv_MF iv_W0 yX11_takeLaw cX11_takeLaw 3 none 1 := ⟨k_c4 (List.mem_of_getElem? (i := 152) rfl) rfl, k_c1 (List.mem_of_getElem? (i := 1) rfl) rfl, by decide +kernel⟩
set_option maxRecDepth 20000 in
theorem k_mf_X11_text : iv_MF iv_W0 yX11_text cX11_text 4 (some .int) 1 := ⟨k_c3 (List.mem_of_getElem? (i := 173) rfl) rfl, k_c1 (List.mem_of_getElem? (i := 1) rfl) rfl, by decide +kernel⟩
set_option maxRecDepth 20000 in
theorem k_mf_X11_turn : iv_MF iv_W0 yX11_turn cX11_turn 4 (some .int) 3 := ⟨k_c5 (List.mem_of_getElem? (i := 174) rfl) rfl, k_c1 (List.mem_of_getElem? (i := 1) rfl) rfl, by decide +kernel⟩
set_option maxRecDepth 20000 in
theorem k_mf_X11_undo : iv_MF iv_W0 yX11_undo cX11_undo 1 (some .boolean) 0 := ⟨k_c5 (List.mem_of_getElem? (i := 212) rfl) rfl, k_c1 (List.mem_of_getElem? (i := 1) rfl) rfl, by decide +kernel⟩
set_option maxRecDepth 20000 in
theorem k_mf_X12_init : iv_MF iv_W0 yX12_init cX12_init 1 none 0 := ⟨k_c6 (List.mem_of_getElem? (i := 7) rfl) rfl, k_c1 (List.mem_of_getElem? (i := 16) rfl) rfl, by decide +kernel⟩
set_option maxRecDepth 20000 in
theorem k_mf_X12_aDay : iv_MF iv_W0 yX12_aDay cX12_aDay 3 (some .int) 0 := ⟨k_c7 (List.mem_of_getElem? (i := 100) rfl) rfl, k_c1 (List.mem_of_getElem? (i := 16) rfl) rfl, by decide +kernel⟩
set_option maxRecDepth 20000 in
theorem k_mf_X12_aLine : iv_MF iv_W0 yX12_aLine cX12_aLine 1 (some .boolean) 0 := ⟨k_c7 (List.mem_of_getElem? (i := 8) rfl) rfl, k_c1 (List.mem_of_getElem? (i := 16) rfl) rfl, by decide +kernel⟩
set_option maxRecDepth 20000 in
theorem k_mf_X12_aRing : iv_MF iv_W0 yX12_aRing cX12_aRing 1 (some .boolean) 0 := ⟨k_c6 (List.mem_of_getElem? (i := 224) rfl) rfl, k_c1 (List.mem_of_getElem? (i := 16) rfl) rfl, by decide +kernel⟩
set_option maxRecDepth 20000 in
theorem k_mf_X12_any : iv_MF iv_W0 yX12_any cX12_any 1 (some .boolean) 0 := ⟨k_c7 (List.mem_of_getElem? (i := 28) rfl) rfl, k_c1 (List.mem_of_getElem? (i := 16) rfl) rfl, by decide +kernel⟩
set_option maxRecDepth 20000 in
theorem k_mf_X12_apart : iv_MF iv_W0 yX12_apart cX12_apart 2 (some .int) 2 := ⟨k_c7 (List.mem_of_getElem? (i := 143) rfl) rfl, k_c1 (List.mem_of_getElem? (i := 16) rfl) rfl, by decide +kernel⟩
set_option maxRecDepth 20000 in
theorem k_mf_X12_ask : iv_MF iv_W0 yX12_ask cX12_ask 5 (some .int) 1 := ⟨k_c8 (List.mem_of_getElem? (i := 149) rfl) rfl, k_c1 (List.mem_of_getElem? (i := 16) rfl) rfl, by decide +kernel⟩
set_option maxRecDepth 20000 in
theorem k_mf_X12_asked : iv_MF iv_W0 yX12_asked cX12_asked 1 (some .int) 0 := ⟨k_c6 (List.mem_of_getElem? (i := 199) rfl) rfl, k_c1 (List.mem_of_getElem? (i := 16) rfl) rfl, by decide +kernel⟩
set_option maxRecDepth 20000 in
theorem k_mf_X12_astray : iv_MF iv_W0 yX12_astray cX12_astray 3 (some .int) 2 := ⟨k_c7 (List.mem_of_getElem? (i := 219) rfl) rfl, k_c1 (List.mem_of_getElem? (i := 16) rfl) rfl, by decide +kernel⟩
set_option maxRecDepth 20000 in
theorem k_mf_X12_astrayOf : iv_MF iv_W0 yX12_astrayOf cX12_astrayOf 8 (some .int) 2 := ⟨k_c7 (List.mem_of_getElem? (i := 196) rfl) rfl, k_c1 (List.mem_of_getElem? (i := 16) rfl) rfl, by decide +kernel⟩
set_option maxRecDepth 20000 in
theorem k_mf_X12_bad : iv_MF iv_W0 yX12_bad cX12_bad 2 (some .boolean) 1 := ⟨k_c6 (List.mem_of_getElem? (i := 228) rfl) rfl, k_c1 (List.mem_of_getElem? (i := 16) rfl) rfl, by decide +kernel⟩
set_option maxRecDepth 20000 in
theorem k_mf_X12_bell : iv_MF iv_W0 yX12_bell cX12_bell 7 (some .int) 4 := ⟨k_c6 (List.mem_of_getElem? (i := 127) rfl) rfl, k_c1 (List.mem_of_getElem? (i := 16) rfl) rfl, by decide +kernel⟩
set_option maxRecDepth 20000 in
theorem k_mf_X12_bells : iv_MF iv_W0 yX12_bells cX12_bells 4 none 3 := ⟨k_c6 (List.mem_of_getElem? (i := 131) rfl) rfl, k_c1 (List.mem_of_getElem? (i := 16) rfl) rfl, by decide +kernel⟩
set_option maxRecDepth 20000 in
theorem k_mf_X12_book : iv_MF iv_W0 yX12_book cX12_book 3 (some .int) 2 := ⟨k_c7 (List.mem_of_getElem? (i := 227) rfl) rfl, k_c1 (List.mem_of_getElem? (i := 16) rfl) rfl, by decide +kernel⟩
set_option maxRecDepth 20000 in
theorem k_mf_X12_both : iv_MF iv_W0 yX12_both cX12_both 3 (some .int) 3 := ⟨k_c7 (List.mem_of_getElem? (i := 170) rfl) rfl, k_c1 (List.mem_of_getElem? (i := 16) rfl) rfl, by decide +kernel⟩
set_option maxRecDepth 20000 in
theorem k_mf_X12_canBeRaised : iv_MF iv_W0 yX12_canBeRaised cX12_canBeRaised 6 (some .boolean) 2 := ⟨k_c8 (List.mem_of_getElem? (i := 65) rfl) rfl, k_c1 (List.mem_of_getElem? (i := 16) rfl) rfl, by decide +kernel⟩
set_option maxRecDepth 20000 in
theorem k_mf_X12_canFollow : iv_MF iv_W0 yX12_canFollow cX12_canFollow 4 (some .boolean) 3 := ⟨k_c8 (List.mem_of_getElem? (i := 184) rfl) rfl, k_c1 (List.mem_of_getElem? (i := 16) rfl) rfl, by decide +kernel⟩
set_option maxRecDepth 20000 in
theorem k_mf_X12_canRing : iv_MF iv_W0 yX12_canRing cX12_canRing 4 (some .boolean) 2 := ⟨k_c8 (List.mem_of_getElem? (i := 77) rfl) rfl, k_c1 (List.mem_of_getElem? (i := 16) rfl) rfl, by decide +kernel⟩
set_option maxRecDepth 20000 in
theorem k_mf_X12_canSet : iv_MF iv_W0 yX12_canSet cX12_canSet 4 (some .boolean) 3 := ⟨k_c6 (List.mem_of_getElem? (i := 139) rfl) rfl, k_c1 (List.mem_of_getElem? (i := 16) rfl) rfl, by decide +kernel⟩
set_option maxRecDepth 20000 in
theorem k_mf_X12_canTakeFrom : iv_MF iv_W0 yX12_canTakeFrom cX12_canTakeFrom 3 (some .boolean) 2 := ⟨k_c8 (List.mem_of_getElem? (i := 129) rfl) rfl, k_c1 (List.mem_of_getElem? (i := 16) rfl) rfl, by decide +kernel⟩
set_option maxRecDepth 20000 in
theorem k_mf_X12_child : iv_MF iv_W0 yX12_child cX12_child 3 (some .int) 2 := ⟨k_c7 (List.mem_of_getElem? (i := 223) rfl) rfl, k_c1 (List.mem_of_getElem? (i := 16) rfl) rfl, by decide +kernel⟩
set_option maxRecDepth 20000 in
theorem k_mf_X12_chorus : iv_MF iv_W0 yX12_chorus cX12_chorus 8 (some .int) 3 := ⟨k_c8 (List.mem_of_getElem? (i := 15) rfl) rfl, k_c1 (List.mem_of_getElem? (i := 16) rfl) rfl, by decide +kernel⟩
set_option maxRecDepth 20000 in
theorem k_mf_X12_clearOf : iv_MF iv_W0 yX12_clearOf cX12_clearOf 4 (some .int) 1 := ⟨k_c7 (List.mem_of_getElem? (i := 132) rfl) rfl, k_c1 (List.mem_of_getElem? (i := 16) rfl) rfl, by decide +kernel⟩
set_option maxRecDepth 20000 in
theorem k_mf_X12_comeOf : iv_MF iv_W0 yX12_comeOf cX12_comeOf 2 (some .int) 1 := ⟨k_c7 (List.mem_of_getElem? (i := 124) rfl) rfl, k_c1 (List.mem_of_getElem? (i := 16) rfl) rfl, by decide +kernel⟩
set_option maxRecDepth 20000 in
theorem k_mf_X12_comesOne : iv_MF iv_W0 yX12_comesOne cX12_comesOne 4 (some .int) 2 := ⟨k_c7 (List.mem_of_getElem? (i := 204) rfl) rfl, k_c1 (List.mem_of_getElem? (i := 16) rfl) rfl, by decide +kernel⟩
set_option maxRecDepth 20000 in
theorem k_mf_X12_comesTo : iv_MF iv_W0 yX12_comesTo cX12_comesTo 8 (some .int) 3 := ⟨k_c7 (List.mem_of_getElem? (i := 167) rfl) rfl, k_c1 (List.mem_of_getElem? (i := 16) rfl) rfl, by decide +kernel⟩
set_option maxRecDepth 20000 in
theorem k_mf_X12_comingSays : iv_MF iv_W0 yX12_comingSays cX12_comingSays 4 (some .int) 2 := ⟨k_c7 (List.mem_of_getElem? (i := 128) rfl) rfl, k_c1 (List.mem_of_getElem? (i := 16) rfl) rfl, by decide +kernel⟩
set_option maxRecDepth 20000 in
theorem k_mf_X12_comingWord : iv_MF iv_W0 yX12_comingWord cX12_comingWord 1 (some .int) 0 := ⟨k_c6 (List.mem_of_getElem? (i := 208) rfl) rfl, k_c1 (List.mem_of_getElem? (i := 16) rfl) rfl, by decide +kernel⟩
set_option maxRecDepth 20000 in
theorem k_mf_X12_count : iv_MF iv_W0 yX12_count cX12_count 3 (some .int) 1 := ⟨k_c7 (List.mem_of_getElem? (i := 179) rfl) rfl, k_c1 (List.mem_of_getElem? (i := 16) rfl) rfl, by decide +kernel⟩
set_option maxRecDepth 20000 in
theorem k_mf_X12_days : iv_MF iv_W0 yX12_days cX12_days 4 (some .int) 1 := ⟨k_c7 (List.mem_of_getElem? (i := 96) rfl) rfl, k_c1 (List.mem_of_getElem? (i := 16) rfl) rfl, by decide +kernel⟩
set_option maxRecDepth 20000 in
theorem k_mf_X12_doQuarrel : iv_MF iv_W0 yX12_doQuarrel cX12_doQuarrel 4 (some .boolean) 2 := ⟨k_c8 (List.mem_of_getElem? (i := 48) rfl) rfl, k_c1 (List.mem_of_getElem? (i := 16) rfl) rfl, by decide +kernel⟩
set_option maxRecDepth 20000 in
theorem k_mf_X12_draw : iv_MF iv_W0 yX12_draw cX12_draw 2 (some .int) 1 := ⟨k_c7 (List.mem_of_getElem? (i := 187) rfl) rfl, k_c1 (List.mem_of_getElem? (i := 16) rfl) rfl, by decide +kernel⟩
set_option maxRecDepth 20000 in
theorem k_mf_X12_drowns : iv_MF iv_W0 yX12_drowns cX12_drowns 4 (some .boolean) 3 := ⟨k_c7 (List.mem_of_getElem? (i := 140) rfl) rfl, k_c1 (List.mem_of_getElem? (i := 16) rfl) rfl, by decide +kernel⟩
set_option maxRecDepth 20000 in
theorem k_mf_X12_eldest : iv_MF iv_W0 yX12_eldest cX12_eldest 4 (some .int) 2 := ⟨k_c8 (List.mem_of_getElem? (i := 24) rfl) rfl, k_c1 (List.mem_of_getElem? (i := 16) rfl) rfl, by decide +kernel⟩
set_option maxRecDepth 20000 in
theorem k_mf_X12_end : iv_MF iv_W0 yX12_end cX12_end 2 (some .boolean) 1 := ⟨k_c6 (List.mem_of_getElem? (i := 151) rfl) rfl, k_c1 (List.mem_of_getElem? (i := 16) rfl) rfl, by decide +kernel⟩
set_option maxRecDepth 20000 in
theorem k_mf_X12_every : iv_MF iv_W0 yX12_every cX12_every 1 (some .boolean) 0 := ⟨k_c7 (List.mem_of_getElem? (i := 32) rfl) rfl, k_c1 (List.mem_of_getElem? (i := 16) rfl) rfl, by decide +kernel⟩
set_option maxRecDepth 20000 in
theorem k_mf_X12_far : iv_MF iv_W0 yX12_far cX12_far 4 (some .boolean) 3 := ⟨k_c6 (List.mem_of_getElem? (i := 117) rfl) rfl, k_c1 (List.mem_of_getElem? (i := 16) rfl) rfl, by decide +kernel⟩
set_option maxRecDepth 20000 in
theorem k_mf_X12_farOf : iv_MF iv_W0 yX12_farOf cX12_farOf 3 (some .int) 2 := ⟨k_c7 (List.mem_of_getElem? (i := 155) rfl) rfl, k_c1 (List.mem_of_getElem? (i := 16) rfl) rfl, by decide +kernel⟩
set_option maxRecDepth 20000 in
theorem k_mf_X12_fault : iv_MF iv_W0 yX12_fault cX12_fault 2 (some .int) 1 := ⟨k_c7 (List.mem_of_getElem? (i := 52) rfl) rfl, k_c1 (List.mem_of_getElem? (i := 16) rfl) rfl, by decide +kernel⟩
set_option maxRecDepth 20000 in
theorem k_mf_X12_feed : iv_MF iv_W0 yX12_feed cX12_feed 8 (some .int) 5 := ⟨k_c6 (List.mem_of_getElem? (i := 147) rfl) rfl, k_c1 (List.mem_of_getElem? (i := 16) rfl) rfl, by decide +kernel⟩
set_option maxRecDepth 20000 in
theorem k_mf_X12_fits : iv_MF iv_W0 yX12_fits cX12_fits 2 (some .int) 1 := ⟨k_c8 (List.mem_of_getElem? (i := 137) rfl) rfl, k_c1 (List.mem_of_getElem? (i := 16) rfl) rfl, by decide +kernel⟩
set_option maxRecDepth 20000 in
theorem k_mf_X12_fitsOf : iv_MF iv_W0 yX12_fitsOf cX12_fitsOf 4 (some .int) 1 := ⟨k_c8 (List.mem_of_getElem? (i := 141) rfl) rfl, k_c1 (List.mem_of_getElem? (i := 16) rfl) rfl, by decide +kernel⟩
set_option maxRecDepth 20000 in
theorem k_mf_X12_forgets : iv_MF iv_W0 yX12_forgets cX12_forgets 1 none 0 := ⟨k_c6 (List.mem_of_getElem? (i := 113) rfl) rfl, k_c1 (List.mem_of_getElem? (i := 16) rfl) rfl, by decide +kernel⟩
set_option maxRecDepth 20000 in
theorem k_mf_X12_free : iv_MF iv_W0 yX12_free cX12_free 4 (some .int) 1 := ⟨k_c8 (List.mem_of_getElem? (i := 28) rfl) rfl, k_c1 (List.mem_of_getElem? (i := 16) rfl) rfl, by decide +kernel⟩
set_option maxRecDepth 20000 in
theorem k_mf_X12_greater : iv_MF iv_W0 yX12_greater cX12_greater 2 (some .int) 2 := ⟨k_c7 (List.mem_of_getElem? (i := 176) rfl) rfl, k_c1 (List.mem_of_getElem? (i := 16) rfl) rfl, by decide +kernel⟩
set_option maxRecDepth 20000 in
theorem k_mf_X12_greaterPart : iv_MF iv_W0 yX12_greaterPart cX12_greaterPart 5 (some .int) 2 := ⟨k_c8 (List.mem_of_getElem? (i := 153) rfl) rfl, k_c1 (List.mem_of_getElem? (i := 16) rfl) rfl, by decide +kernel⟩
set_option maxRecDepth 20000 in
theorem k_mf_X12_hasLine : iv_MF iv_W0 yX12_hasLine cX12_hasLine 4 (some .boolean) 2 := ⟨k_c7 (List.mem_of_getElem? (i := 112) rfl) rfl, k_c1 (List.mem_of_getElem? (i := 16) rfl) rfl, by decide +kernel⟩
set_option maxRecDepth 20000 in
theorem k_mf_X12_heard : iv_MF iv_W0 yX12_heard cX12_heard 6 (some .int) 3 := ⟨k_c7 (List.mem_of_getElem? (i := 231) rfl) rfl, k_c1 (List.mem_of_getElem? (i := 16) rfl) rfl, by decide +kernel⟩
set_option maxRecDepth 20000 in
theorem k_mf_X12_hopes : iv_MF iv_W0 yX12_hopes cX12_hopes 3 (some .int) 1 := ⟨k_c8 (List.mem_of_getElem? (i := 161) rfl) rfl, k_c1 (List.mem_of_getElem? (i := 16) rfl) rfl, by decide +kernel⟩
set_option maxRecDepth 20000 in
theorem k_mf_X12_image : iv_MF iv_W0 yX12_image cX12_image 3 (some .boolean) 1 := ⟨k_c8 (List.mem_of_getElem? (i := 188) rfl) rfl, k_c1 (List.mem_of_getElem? (i := 16) rfl) rfl, by decide +kernel⟩
set_option maxRecDepth 20000 in
theorem k_mf_X12_is : iv_MF iv_W0 yX12_is cX12_is 4 (some .boolean) 1 := ⟨k_c6 (List.mem_of_getElem? (i := 179) rfl) rfl, k_c1 (List.mem_of_getElem? (i := 16) rfl) rfl, by decide +kernel⟩
set_option maxRecDepth 20000 in
theorem k_mf_X12_isBell : iv_MF iv_W0 yX12_isBell cX12_isBell 2 (some .boolean) 1 := ⟨k_c6 (List.mem_of_getElem? (i := 143) rfl) rfl, k_c1 (List.mem_of_getElem? (i := 16) rfl) rfl, by decide +kernel⟩
set_option maxRecDepth 20000 in
theorem k_mf_X12_isBetter : iv_MF iv_W0 yX12_isBetter cX12_isBetter 5 (some .boolean) 2 := ⟨k_c8 (List.mem_of_getElem? (i := 93) rfl) rfl, k_c1 (List.mem_of_getElem? (i := 16) rfl) rfl, by decide +kernel⟩
set_option maxRecDepth 20000 in
theorem k_mf_X12_isChild : iv_MF iv_W0 yX12_isChild cX12_isChild 2 (some .boolean) 1 := ⟨k_c7 (List.mem_of_getElem? (i := 84) rfl) rfl, k_c1 (List.mem_of_getElem? (i := 16) rfl) rfl, by decide +kernel⟩
set_option maxRecDepth 20000 in
theorem k_mf_X12_isClear : iv_MF iv_W0 yX12_isClear cX12_isClear 4 (some .boolean) 2 := ⟨k_c7 (List.mem_of_getElem? (i := 136) rfl) rfl, k_c1 (List.mem_of_getElem? (i := 16) rfl) rfl, by decide +kernel⟩
set_option maxRecDepth 20000 in
theorem k_mf_X12_isDigit : iv_MF iv_W0 yX12_isDigit cX12_isDigit 1 (some .boolean) 1 := ⟨k_c6 (List.mem_of_getElem? (i := 216) rfl) rfl, k_c1 (List.mem_of_getElem? (i := 16) rfl) rfl, by decide +kernel⟩
set_option maxRecDepth 20000 in
theorem k_mf_X12_isDrowned : iv_MF iv_W0 yX12_isDrowned cX12_isDrowned 4 (some .boolean) 2 := ⟨k_c8 (List.mem_of_getElem? (i := 36) rfl) rfl, k_c1 (List.mem_of_getElem? (i := 16) rfl) rfl, by decide +kernel⟩
set_option maxRecDepth 20000 in
theorem k_mf_X12_isHour : iv_MF iv_W0 yX12_isHour cX12_isHour 1 (some .boolean) 1 := ⟨k_c7 (List.mem_of_getElem? (i := 215) rfl) rfl, k_c1 (List.mem_of_getElem? (i := 16) rfl) rfl, by decide +kernel⟩
set_option maxRecDepth 20000 in
theorem k_mf_X12_isIn : iv_MF iv_W0 yX12_isIn cX12_isIn 3 (some .boolean) 3 := ⟨k_c6 (List.mem_of_getElem? (i := 123) rfl) rfl, k_c1 (List.mem_of_getElem? (i := 16) rfl) rfl, by decide +kernel⟩
set_option maxRecDepth 20000 in
theorem k_mf_X12_isLetter : iv_MF iv_W0 yX12_isLetter cX12_isLetter 1 (some .boolean) 1 := ⟨k_c6 (List.mem_of_getElem? (i := 166) rfl) rfl, k_c1 (List.mem_of_getElem? (i := 16) rfl) rfl, by decide +kernel⟩
set_option maxRecDepth 20000 in
theorem k_mf_X12_isLineAt : iv_MF iv_W0 yX12_isLineAt cX12_isLineAt 3 (some .boolean) 2 := ⟨k_c7 (List.mem_of_getElem? (i := 116) rfl) rfl, k_c1 (List.mem_of_getElem? (i := 16) rfl) rfl, by decide +kernel⟩
set_option maxRecDepth 20000 in
theorem k_mf_X12_isOctave : iv_MF iv_W0 yX12_isOctave cX12_isOctave 3 (some .boolean) 2 := ⟨k_c7 (List.mem_of_getElem? (i := 200) rfl) rfl, k_c1 (List.mem_of_getElem? (i := 16) rfl) rfl, by decide +kernel⟩
set_option maxRecDepth 20000 in
theorem k_mf_X12_isOfTurns : iv_MF iv_W0 yX12_isOfTurns cX12_isOfTurns 5 (some .boolean) 2 := ⟨k_c8 (List.mem_of_getElem? (i := 145) rfl) rfl, k_c1 (List.mem_of_getElem? (i := 16) rfl) rfl, by decide +kernel⟩
set_option maxRecDepth 20000 in
theorem k_mf_X12_isPitched : iv_MF iv_W0 yX12_isPitched cX12_isPitched 3 (some .boolean) 1 := ⟨k_c8 (List.mem_of_getElem? (i := 101) rfl) rfl, k_c1 (List.mem_of_getElem? (i := 16) rfl) rfl, by decide +kernel⟩
set_option maxRecDepth 20000 in
theorem k_mf_X12_isRung : iv_MF iv_W0 yX12_isRung cX12_isRung 6 (some .int) 1 := ⟨k_c7 (List.mem_of_getElem? (i := 120) rfl) rfl, k_c1 (List.mem_of_getElem? (i := 16) rfl) rfl, by decide +kernel⟩
set_option maxRecDepth 20000 in
theorem k_mf_X12_isRungBell : iv_MF iv_W0 yX12_isRungBell cX12_isRungBell 2 (some .boolean) 1 := ⟨k_c8 (List.mem_of_getElem? (i := 32) rfl) rfl, k_c1 (List.mem_of_getElem? (i := 16) rfl) rfl, by decide +kernel⟩
set_option maxRecDepth 20000 in
theorem k_mf_X12_isSilent : iv_MF iv_W0 yX12_isSilent cX12_isSilent 3 (some .boolean) 1 := ⟨k_c8 (List.mem_of_getElem? (i := 3) rfl) rfl, k_c1 (List.mem_of_getElem? (i := 16) rfl) rfl, by decide +kernel⟩
set_option maxRecDepth 20000 in
theorem k_mf_X12_isSo : iv_MF iv_W0 yX12_isSo cX12_isSo 3 (some .boolean) 2 := ⟨k_c7 (List.mem_of_getElem? (i := 163) rfl) rfl, k_c1 (List.mem_of_getElem? (i := 16) rfl) rfl, by decide +kernel⟩
set_option maxRecDepth 20000 in
theorem k_mf_X12_isTower : iv_MF iv_W0 yX12_isTower cX12_isTower 1 (some .boolean) 1 := ⟨k_c6 (List.mem_of_getElem? (i := 120) rfl) rfl, k_c1 (List.mem_of_getElem? (i := 16) rfl) rfl, by decide +kernel⟩
set_option maxRecDepth 20000 in
theorem k_mf_X12_isWrong : iv_MF iv_W0 yX12_isWrong cX12_isWrong 2 (some .boolean) 1 := ⟨k_c8 (List.mem_of_getElem? (i := 113) rfl) rfl, k_c1 (List.mem_of_getElem? (i := 16) rfl) rfl, by decide +kernel⟩
set_option maxRecDepth 20000 in
theorem k_mf_X12_keeps : iv_MF iv_W0 yX12_keeps cX12_keeps 2 none 0 := ⟨k_c7 (List.mem_of_getElem? (i := 68) rfl) rfl, k_c1 (List.mem_of_getElem? (i := 16) rfl) rfl, by decide +kernel⟩
set_option maxRecDepth 20000 in
theorem k_mf_X12_late : iv_MF iv_W0 yX12_late cX12_late 6 (some .int) 2 := ⟨k_c8 (List.mem_of_getElem? (i := 165) rfl) rfl, k_c1 (List.mem_of_getElem? (i := 16) rfl) rfl, by decide +kernel⟩
set_option maxRecDepth 20000 in
theorem k_mf_X12_lay : iv_MF iv_W0 yX12_lay cX12_lay 3 none 2 := ⟨k_c7 (List.mem_of_getElem? (i := 24) rfl) rfl, k_c1 (List.mem_of_getElem? (i := 16) rfl) rfl, by decide +kernel⟩
set_option maxRecDepth 20000 in
theorem k_mf_X12_lays : iv_MF iv_W0 yX12_lays cX12_lays 2 none 1 := ⟨k_c7 (List.mem_of_getElem? (i := 151) rfl) rfl, k_c1 (List.mem_of_getElem? (i := 16) rfl) rfl, by decide +kernel⟩
set_option maxRecDepth 20000 in
theorem k_mf_X12_laysPeals : iv_MF iv_W0 yX12_laysPeals cX12_laysPeals 6 none 0 := ⟨k_c8 (List.mem_of_getElem? (i := 180) rfl) rfl, k_c1 (List.mem_of_getElem? (i := 16) rfl) rfl, by decide +kernel⟩
set_option maxRecDepth 20000 in
theorem k_mf_X12_leastIn : iv_MF iv_W0 yX12_leastIn cX12_leastIn 2 (some .int) 1 := ⟨k_c7 (List.mem_of_getElem? (i := 192) rfl) rfl, k_c1 (List.mem_of_getElem? (i := 16) rfl) rfl, by decide +kernel⟩
set_option maxRecDepth 20000 in
theorem k_mf_X12_lesser : iv_MF iv_W0 yX12_lesser cX12_lesser 2 (some .int) 2 := ⟨k_c7 (List.mem_of_getElem? (i := 173) rfl) rfl, k_c1 (List.mem_of_getElem? (i := 16) rfl) rfl, by decide +kernel⟩
set_option maxRecDepth 20000 in
theorem k_mf_X12_likeliest : iv_MF iv_W0 yX12_likeliest cX12_likeliest 3 (some .int) 0 := ⟨k_c8 (List.mem_of_getElem? (i := 52) rfl) rfl, k_c1 (List.mem_of_getElem? (i := 16) rfl) rfl, by decide +kernel⟩
set_option maxRecDepth 20000 in
theorem k_mf_X12_look : iv_MF iv_W0 yX12_look cX12_look 2 (some .int) 1 := ⟨k_c8 (List.mem_of_getElem? (i := 192) rfl) rfl, k_c1 (List.mem_of_getElem? (i := 16) rfl) rfl, by decide +kernel⟩
set_option maxRecDepth 20000 in
theorem k_mf_X12_loud : iv_MF iv_W0 yX12_loud cX12_loud 4 (some .int) 3 := ⟨k_c7 (List.mem_of_getElem? (i := 212) rfl) rfl, k_c1 (List.mem_of_getElem? (i := 16) rfl) rfl, by decide +kernel⟩
set_option maxRecDepth 20000 in
theorem k_mf_X12_loudOf : iv_MF iv_W0 yX12_loudOf cX12_loudOf 4 (some .int) 3 := ⟨k_c7 (List.mem_of_getElem? (i := 147) rfl) rfl, k_c1 (List.mem_of_getElem? (i := 16) rfl) rfl, by decide +kernel⟩
set_option maxRecDepth 20000 in
theorem k_mf_X12_louder : iv_MF iv_W0 yX12_louder cX12_louder 12 (some .int) 6 := ⟨k_c8 (List.mem_of_getElem? (i := 169) rfl) rfl, k_c1 (List.mem_of_getElem? (i := 16) rfl) rfl, by decide +kernel⟩
set_option maxRecDepth 20000 in
theorem k_mf_X12_louderBy : iv_MF iv_W0 yX12_louderBy cX12_louderBy 3 (some .int) 3 := ⟨k_c8 (List.mem_of_getElem? (i := 172) rfl) rfl, k_c1 (List.mem_of_getElem? (i := 16) rfl) rfl, by decide +kernel⟩
set_option maxRecDepth 20000 in
theorem k_mf_X12_melt : iv_MF iv_W0 yX12_melt cX12_melt 2 (some .boolean) 1 := ⟨k_c7 (List.mem_of_getElem? (i := 60) rfl) rfl, k_c1 (List.mem_of_getElem? (i := 16) rfl) rfl, by decide +kernel⟩
set_option maxRecDepth 20000 in
theorem k_mf_X12_melts : iv_MF iv_W0 yX12_melts cX12_melts 6 (some .int) 2 := ⟨k_c8 (List.mem_of_getElem? (i := 81) rfl) rfl, k_c1 (List.mem_of_getElem? (i := 16) rfl) rfl, by decide +kernel⟩
set_option maxRecDepth 20000 in
theorem k_mf_X12_muffle : iv_MF iv_W0 yX12_muffle cX12_muffle 3 (some .boolean) 2 := ⟨k_c7 (List.mem_of_getElem? (i := 76) rfl) rfl, k_c1 (List.mem_of_getElem? (i := 16) rfl) rfl, by decide +kernel⟩
set_option maxRecDepth 20000 in
theorem k_mf_X12_need : iv_MF iv_W0 yX12_need cX12_need 2 (some .boolean) 1 := ⟨k_c6 (List.mem_of_getElem? (i := 236) rfl) rfl, k_c1 (List.mem_of_getElem? (i := 16) rfl) rfl, by decide +kernel⟩
set_option maxRecDepth 20000 in
theorem k_mf_X12_next0 : iv_MF iv_W0 yX12_next0 cX12_next0 3 none 0 := ⟨k_c6 (List.mem_of_getElem? (i := 159) rfl) rfl, k_c1 (List.mem_of_getElem? (i := 16) rfl) rfl, by decide +kernel⟩
set_option maxRecDepth 20000 in
theorem k_mf_X12_nextSwap : iv_MF iv_W0 yX12_nextSwap cX12_nextSwap 2 (some .int) 0 := ⟨k_c8 (List.mem_of_getElem? (i := 121) rfl) rfl, k_c1 (List.mem_of_getElem? (i := 16) rfl) rfl, by decide +kernel⟩
set_option maxRecDepth 20000 in
theorem k_mf_X12_noneYet : iv_MF iv_W0 yX12_noneYet cX12_noneYet 5 (some .int) 1 := ⟨k_c8 (List.mem_of_getElem? (i := 56) rfl) rfl, k_c1 (List.mem_of_getElem? (i := 16) rfl) rfl, by decide +kernel⟩
set_option maxRecDepth 20000 in
theorem k_mf_X12_notes : iv_MF iv_W0 yX12_notes cX12_notes 5 none 3 := ⟨k_c7 (List.mem_of_getElem? (i := 72) rfl) rfl, k_c1 (List.mem_of_getElem? (i := 16) rfl) rfl, by decide +kernel⟩
set_option maxRecDepth 20000 in
theorem k_mf_X12_number : iv_MF iv_W0 yX12_number cX12_number 3 (some .boolean) 2 := ⟨k_c7 (List.mem_of_getElem? (i := 0) rfl) rfl, k_c1 (List.mem_of_getElem? (i := 16) rfl) rfl, by decide +kernel⟩
set_option maxRecDepth 20000 in
theorem k_mf_X12_octaves : iv_MF iv_W0 yX12_octaves cX12_octaves 4 (some .int) 1 := ⟨k_c8 (List.mem_of_getElem? (i := 20) rfl) rfl, k_c1 (List.mem_of_getElem? (i := 16) rfl) rfl, by decide +kernel⟩
set_option maxRecDepth 20000 in
theorem k_mf_X12_of : iv_MF iv_W0 yX12_of cX12_of 3 (some .int) 2 := ⟨k_c7 (List.mem_of_getElem? (i := 208) rfl) rfl, k_c1 (List.mem_of_getElem? (i := 16) rfl) rfl, by decide +kernel⟩
set_option maxRecDepth 20000 in
theorem k_mf_X12_ofBell : iv_MF iv_W0 yX12_ofBell cX12_ofBell 3 (some .int) 2 := ⟨k_c7 (List.mem_of_getElem? (i := 64) rfl) rfl, k_c1 (List.mem_of_getElem? (i := 16) rfl) rfl, by decide +kernel⟩
set_option maxRecDepth 20000 in
theorem k_mf_X12_ofChild : iv_MF iv_W0 yX12_ofChild cX12_ofChild 3 (some .int) 2 := ⟨k_c7 (List.mem_of_getElem? (i := 92) rfl) rfl, k_c1 (List.mem_of_getElem? (i := 16) rfl) rfl, by decide +kernel⟩
set_option maxRecDepth 20000 in
theorem k_mf_X12_oneTest : iv_MF iv_W0 yX12_oneTest cX12_oneTest 2 (some .boolean) 0 := ⟨k_c7 (List.mem_of_getElem? (i := 36) rfl) rfl, k_c1 (List.mem_of_getElem? (i := 16) rfl) rfl, by decide +kernel⟩
set_option maxRecDepth 20000 in
theorem k_mf_X12_opens : iv_MF iv_W0 yX12_opens cX12_opens 1 (some .boolean) 0 := ⟨k_c7 (List.mem_of_getElem? (i := 40) rfl) rfl, k_c1 (List.mem_of_getElem? (i := 16) rfl) rfl, by decide +kernel⟩
set_option maxRecDepth 20000 in
theorem k_mf_X12_peals : iv_MF iv_W0 yX12_peals cX12_peals 7 (some .int) 2 := ⟨k_c8 (List.mem_of_getElem? (i := 176) rfl) rfl, k_c1 (List.mem_of_getElem? (i := 16) rfl) rfl, by decide +kernel⟩
set_option maxRecDepth 20000 in
theorem k_mf_X12_placed : iv_MF iv_W0 yX12_placed cX12_placed 7 (some .int) 1 := ⟨k_c8 (List.mem_of_getElem? (i := 40) rfl) rfl, k_c1 (List.mem_of_getElem? (i := 16) rfl) rfl, by decide +kernel⟩
set_option maxRecDepth 20000 in
theorem k_mf_X12_product : iv_MF iv_W0 yX12_product cX12_product 3 (some .boolean) 0 := ⟨k_c7 (List.mem_of_getElem? (i := 16) rfl) rfl, k_c1 (List.mem_of_getElem? (i := 16) rfl) rfl, by decide +kernel⟩
set_option maxRecDepth 20000 in
theorem k_mf_X12_putsLaw : iv_MF iv_W0 yX12_putsLaw cX12_putsLaw 3 (some .int) 1 := ⟨k_c7 (List.mem_of_getElem? (i := 48) rfl) rfl, k_c1 (List.mem_of_getElem? (i := 16) rfl) rfl, by decide +kernel⟩
set_option maxRecDepth 20000 in
theorem k_mf_X12_putsRings : iv_MF iv_W0 yX12_putsRings cX12_putsRings 2 (some .int) 0 := ⟨k_c7 (List.mem_of_getElem? (i := 44) rfl) rfl, k_c1 (List.mem_of_getElem? (i := 16) rfl) rfl, by decide +kernel⟩
set_option maxRecDepth 20000 in
theorem k_mf_X12_quarrels : iv_MF iv_W0 yX12_quarrels cX12_quarrels 7 (some .int) 1 := ⟨k_c8 (List.mem_of_getElem? (i := 44) rfl) rfl, k_c1 (List.mem_of_getElem? (i := 16) rfl) rfl, by decide +kernel⟩
set_option maxRecDepth 20000 in
theorem k_mf_X12_raised : iv_MF iv_W0 yX12_raised cX12_raised 3 (some .int) 1 := ⟨k_c8 (List.mem_of_getElem? (i := 61) rfl) rfl, k_c1 (List.mem_of_getElem? (i := 16) rfl) rfl, by decide +kernel⟩
set_option maxRecDepth 20000 in
theorem k_mf_X12_readsLaw : iv_MF iv_W0 yX12_readsLaw cX12_readsLaw 2 (some .boolean) 0 := ⟨k_c7 (List.mem_of_getElem? (i := 4) rfl) rfl, k_c1 (List.mem_of_getElem? (i := 16) rfl) rfl, by decide +kernel⟩
set_option maxRecDepth 20000 in
theorem k_mf_X12_readsRings : iv_MF iv_W0 yX12_readsRings cX12_readsRings 2 (some .boolean) 0 := ⟨k_c6 (List.mem_of_getElem? (i := 220) rfl) rfl, k_c1 (List.mem_of_getElem? (i := 16) rfl) rfl, by decide +kernel⟩
set_option maxRecDepth 20000 in
theorem k_mf_X12_right : iv_MF iv_W0 yX12_right cX12_right 3 (some .int) 1 := ⟨k_c8 (List.mem_of_getElem? (i := 105) rfl) rfl, k_c1 (List.mem_of_getElem? (i := 16) rfl) rfl, by decide +kernel⟩
set_option maxRecDepth 20000 in
theorem k_mf_X12_ringWord : iv_MF iv_W0 yX12_ringWord cX12_ringWord 1 (some .int) 0 := ⟨k_c6 (List.mem_of_getElem? (i := 174) rfl) rfl, k_c1 (List.mem_of_getElem? (i := 16) rfl) rfl, by decide +kernel⟩
set_option maxRecDepth 20000 in
theorem k_mf_X12_ropes : iv_MF iv_W0 yX12_ropes cX12_ropes 5 (some .int) 1 := ⟨k_c8 (List.mem_of_getElem? (i := 7) rfl) rfl, k_c1 (List.mem_of_getElem? (i := 16) rfl) rfl, by decide +kernel⟩
set_option maxRecDepth 20000 in
theorem k_mf_X12_rows : iv_MF iv_W0 yX12_rows cX12_rows 4 (some .int) 2 := ⟨k_c8 (List.mem_of_getElem? (i := 69) rfl) rfl, k_c1 (List.mem_of_getElem? (i := 16) rfl) rfl, by decide +kernel⟩
set_option maxRecDepth 20000 in
theorem k_mf_X12_rowsFrom : iv_MF iv_W0 yX12_rowsFrom cX12_rowsFrom 4 (some .boolean) 2 := ⟨k_c8 (List.mem_of_getElem? (i := 73) rfl) rfl, k_c1 (List.mem_of_getElem? (i := 16) rfl) rfl, by decide +kernel⟩
set_option maxRecDepth 20000 in
theorem k_mf_X12_says : iv_MF iv_W0 yX12_says cX12_says 6 (some .int) 4 := ⟨k_c7 (List.mem_of_getElem? (i := 159) rfl) rfl, k_c1 (List.mem_of_getElem? (i := 16) rfl) rfl, by decide +kernel⟩
set_option maxRecDepth 20000 in
theorem k_mf_X12_see : iv_MF iv_W0 yX12_see cX12_see 2 (some .int) 1 := ⟨k_c6 (List.mem_of_getElem? (i := 163) rfl) rfl, k_c1 (List.mem_of_getElem? (i := 16) rfl) rfl, by decide +kernel⟩
set_option maxRecDepth 20000 in
theorem k_mf_X12_set : iv_MF iv_W0 yX12_set cX12_set 4 (some .boolean) 3 := ⟨k_c6 (List.mem_of_getElem? (i := 135) rfl) rfl, k_c1 (List.mem_of_getElem? (i := 16) rfl) rfl, by decide +kernel⟩
set_option maxRecDepth 20000 in
theorem k_mf_X12_setsRight : iv_MF iv_W0 yX12_setsRight cX12_setsRight 6 (some .int) 0 := ⟨k_c8 (List.mem_of_getElem? (i := 117) rfl) rfl, k_c1 (List.mem_of_getElem? (i := 16) rfl) rfl, by decide +kernel⟩
set_option maxRecDepth 20000 in
theorem k_mf_X12_siblings : iv_MF iv_W0 yX12_siblings cX12_siblings 7 (some .int) 2 := ⟨k_c8 (List.mem_of_getElem? (i := 97) rfl) rfl, k_c1 (List.mem_of_getElem? (i := 16) rfl) rfl, by decide +kernel⟩
set_option maxRecDepth 20000 in
theorem k_mf_X12_silence : iv_MF iv_W0 yX12_silence cX12_silence 6 (some .int) 1 := ⟨k_c7 (List.mem_of_getElem? (i := 235) rfl) rfl, k_c1 (List.mem_of_getElem? (i := 16) rfl) rfl, by decide +kernel⟩
set_option maxRecDepth 20000 in
theorem k_mf_X12_silentFrom : iv_MF iv_W0 yX12_silentFrom cX12_silentFrom 3 (some .int) 1 := ⟨k_c7 (List.mem_of_getElem? (i := 239) rfl) rfl, k_c1 (List.mem_of_getElem? (i := 16) rfl) rfl, by decide +kernel⟩
set_option maxRecDepth 20000 in
theorem k_mf_X12_slackOf : iv_MF iv_W0 yX12_slackOf cX12_slackOf 2 (some .int) 1 := ⟨k_c7 (List.mem_of_getElem? (i := 183) rfl) rfl, k_c1 (List.mem_of_getElem? (i := 16) rfl) rfl, by decide +kernel⟩
set_option maxRecDepth 20000 in
theorem k_mf_X12_soundWord : iv_MF iv_W0 yX12_soundWord cX12_soundWord 1 (some .int) 0 := ⟨k_c6 (List.mem_of_getElem? (i := 191) rfl) rfl, k_c1 (List.mem_of_getElem? (i := 16) rfl) rfl, by decide +kernel⟩
set_option maxRecDepth 20000 in
theorem k_mf_X12_soundingIn : iv_MF iv_W0 yX12_soundingIn cX12_soundingIn 4 (some .int) 1 := ⟨k_c8 (List.mem_of_getElem? (i := 11) rfl) rfl, k_c1 (List.mem_of_getElem? (i := 16) rfl) rfl, by decide +kernel⟩
set_option maxRecDepth 20000 in
theorem k_mf_X12_soundingOf : iv_MF iv_W0 yX12_soundingOf cX12_soundingOf 4 (some .int) 1 := ⟨k_c7 (List.mem_of_getElem? (i := 104) rfl) rfl, k_c1 (List.mem_of_getElem? (i := 16) rfl) rfl, by decide +kernel⟩
set_option maxRecDepth 20000 in
theorem k_mf_X12_sounds : iv_MF iv_W0 yX12_sounds cX12_sounds 3 (some .boolean) 2 := ⟨k_c7 (List.mem_of_getElem? (i := 108) rfl) rfl, k_c1 (List.mem_of_getElem? (i := 16) rfl) rfl, by decide +kernel⟩
set_option maxRecDepth 20000 in
theorem k_mf_X12_state : iv_MF iv_W0 yX12_state cX12_state 3 (some .int) 1 := ⟨k_c6 (List.mem_of_getElem? (i := 109) rfl) rfl, k_c1 (List.mem_of_getElem? (i := 16) rfl) rfl, by decide +kernel⟩
set_option maxRecDepth 20000 in
theorem k_mf_X12_stop : iv_MF iv_W0 yX12_stop cX12_stop 6 (some .int) 2 := ⟨k_c8 (List.mem_of_getElem? (i := 157) rfl) rfl, k_c1 (List.mem_of_getElem? (i := 16) rfl) rfl, by decide +kernel⟩
set_option maxRecDepth 20000 in
theorem k_mf_X12_sumOf : iv_MF iv_W0 yX12_sumOf cX12_sumOf 5 (some .int) 2 := ⟨k_c8 (List.mem_of_getElem? (i := 89) rfl) rfl, k_c1 (List.mem_of_getElem? (i := 16) rfl) rfl, by decide +kernel⟩
set_option maxRecDepth 20000 in
theorem k_mf_X12_sumUp : iv_MF iv_W0 yX12_sumUp cX12_sumUp 2 (some .boolean) 0 := ⟨k_c7 (List.mem_of_getElem? (i := 12) rfl) rfl, k_c1 (List.mem_of_getElem? (i := 16) rfl) rfl, by decide +kernel⟩
set_option maxRecDepth 20000 in
theorem k_mf_X12_swap : iv_MF iv_W0 yX12_swap cX12_swap 3 (some .boolean) 2 := ⟨k_c7 (List.mem_of_getElem? (i := 80) rfl) rfl, k_c1 (List.mem_of_getElem? (i := 16) rfl) rfl, by decide +kernel⟩
set_option maxRecDepth 20000 in
theorem k_mf_X12_swaps : iv_MF iv_W0 yX12_swaps cX12_swaps 4 none 2 := ⟨k_c7 (List.mem_of_getElem? (i := 88) rfl) rfl, k_c1 (List.mem_of_getElem? (i := 16) rfl) rfl, by decide +kernel⟩
set_option maxRecDepth 20000 in
theorem k_mf_X12_swapsWith : iv_MF iv_W0 yX12_swapsWith cX12_swapsWith 3 (some .int) 1 := ⟨k_c8 (List.mem_of_getElem? (i := 125) rfl) rfl, k_c1 (List.mem_of_getElem? (i := 16) rfl) rfl, by decide +kernel⟩
set_option maxRecDepth 20000 in
theorem k_mf_X12_text : iv_MF iv_W0 yX12_text cX12_text 3 (some .int) 1 := ⟨k_c6 (List.mem_of_getElem? (i := 155) rfl) rfl, k_c1 (List.mem_of_getElem? (i := 16) rfl) rfl, by decide +kernel⟩
set_option maxRecDepth 20000 in
theorem k_mf_X12_told : iv_MF iv_W0 yX12_told cX12_told 5 (some .boolean) 4 := ⟨k_c6 (List.mem_of_getElem? (i := 232) rfl) rfl, k_c1 (List.mem_of_getElem? (i := 16) rfl) rfl, by decide +kernel⟩
set_option maxRecDepth 20000 in
theorem k_mf_X12_turn : iv_MF iv_W0 yX12_turn cX12_turn 5 (some .int) 3 := ⟨k_c8 (List.mem_of_getElem? (i := 133) rfl) rfl, k_c1 (List.mem_of_getElem? (i := 16) rfl) rfl, by decide +kernel⟩
set_option maxRecDepth 20000 in
theorem k_mf_X12_undo : iv_MF iv_W0 yX12_undo cX12_undo 2 (some .boolean) 0 := ⟨k_c7 (List.mem_of_getElem? (i := 56) rfl) rfl, k_c1 (List.mem_of_getElem? (i := 16) rfl) rfl, by decide +kernel⟩
set_option maxRecDepth 20000 in
theorem k_mf_X12_unit : iv_MF iv_W0 yX12_unit cX12_unit 2 (some .boolean) 0 := ⟨k_c7 (List.mem_of_getElem? (i := 20) rfl) rfl, k_c1 (List.mem_of_getElem? (i := 16) rfl) rfl, by decide +kernel⟩
set_option maxRecDepth 20000 in
theorem k_mf_X12_unmelted : iv_MF iv_W0 yX12_unmelted cX12_unmelted 3 (some .int) 0 := ⟨k_c8 (List.mem_of_getElem? (i := 85) rfl) rfl, k_c1 (List.mem_of_getElem? (i := 16) rfl) rfl, by decide +kernel⟩
set_option maxRecDepth 20000 in
theorem k_mf_X12_word : iv_MF iv_W0 yX12_word cX12_word 1 (some .int) 0 := ⟨k_c6 (List.mem_of_getElem? (i := 170) rfl) rfl, k_c1 (List.mem_of_getElem? (i := 16) rfl) rfl, by decide +kernel⟩
set_option maxRecDepth 20000 in
theorem k_mf_X12_wrongs : iv_MF iv_W0 yX12_wrongs cX12_wrongs 3 (some .int) 0 := ⟨k_c8 (List.mem_of_getElem? (i := 109) rfl) rfl, k_c1 (List.mem_of_getElem? (i := 16) rfl) rfl, by decide +kernel⟩
set_option maxRecDepth 20000 in
theorem k_mf_J11_highSurrogate_5068e : iv_MF iv_W0 yJ11_highSurrogate_5068e cJ11_highSurrogate_5068e 1 (some .char) 1 := ⟨k_c4 (List.mem_of_getElem? (i := 67) rfl) rfl, k_c1 (List.mem_of_getElem? (i := 22) rfl) rfl, by decide +kernel⟩
set_option maxRecDepth 20000 in
theorem k_mf_J11_isValidCodePoint_9a6ad : iv_MF iv_W0 yJ11_isValidCodePoint_9a6ad cJ11_isValidCodePoint_9a6ad 2 (some .boolean) 1 := ⟨k_c4 (List.mem_of_getElem? (i := 64) rfl) rfl, k_c1 (List.mem_of_getElem? (i := 22) rfl) rfl, by decide +kernel⟩
set_option maxRecDepth 20000 in
theorem k_mf_J11_lowSurrogate_5068e : iv_MF iv_W0 yJ11_lowSurrogate_5068e cJ11_lowSurrogate_5068e 1 (some .char) 1 := ⟨k_c4 (List.mem_of_getElem? (i := 71) rfl) rfl, k_c1 (List.mem_of_getElem? (i := 22) rfl) rfl, by decide +kernel⟩
set_option maxRecDepth 20000 in
theorem k_mf_J6_bitCount_0f7a4 : iv_MF iv_W0 yJ6_bitCount_0f7a4 cJ6_bitCount_0f7a4 1 (some .int) 1 := ⟨k_c3 (List.mem_of_getElem? (i := 115) rfl) rfl, k_c1 (List.mem_of_getElem? (i := 17) rfl) rfl, by decide +kernel⟩
set_option maxRecDepth 20000 in
theorem k_mf_J9_abs_0f7a4 : iv_MF iv_W0 yJ9_abs_0f7a4 cJ9_abs_0f7a4 1 (some .int) 1 := ⟨k_c3 (List.mem_of_getElem? (i := 83) rfl) rfl, k_c1 (List.mem_of_getElem? (i := 6) rfl) rfl, by decide +kernel⟩
set_option maxRecDepth 20000 in
theorem k_mf_J9_max_7cf53 : iv_MF iv_W0 yJ9_max_7cf53 cJ9_max_7cf53 2 (some .int) 2 := ⟨k_c3 (List.mem_of_getElem? (i := 112) rfl) rfl, k_c1 (List.mem_of_getElem? (i := 6) rfl) rfl, by decide +kernel⟩
set_option maxRecDepth 20000 in
theorem k_mf_J9_min_7cf53 : iv_MF iv_W0 yJ9_min_7cf53 cJ9_min_7cf53 2 (some .int) 2 := ⟨k_c1 (List.mem_of_getElem? (i := 80) rfl) rfl, k_c1 (List.mem_of_getElem? (i := 6) rfl) rfl, by decide +kernel⟩
set_option maxRecDepth 20000 in
theorem k_mf_J0_charAt_5068e : iv_MF iv_W0 yJ0_charAt_5068e cJ0_charAt_5068e 2 (some .char) 1 := ⟨k_c3 (List.mem_of_getElem? (i := 222) rfl) rfl, k_c1 (List.mem_of_getElem? (i := 18) rfl) rfl, by decide +kernel⟩
set_option maxRecDepth 20000 in
theorem k_mf_J0_checkBoundsBeginEnd_23922 : iv_MF iv_W0 yJ0_checkBoundsBeginEnd_23922 cJ0_checkBoundsBeginEnd_23922 3 none 3 := ⟨k_c4 (List.mem_of_getElem? (i := 52) rfl) rfl, k_c1 (List.mem_of_getElem? (i := 18) rfl) rfl, by decide +kernel⟩
set_option maxRecDepth 20000 in
theorem k_mf_J0_checkIndex_df160 : iv_MF iv_W0 yJ0_checkIndex_df160 cJ0_checkIndex_df160 2 none 2 := ⟨k_c3 (List.mem_of_getElem? (i := 232) rfl) rfl, k_c1 (List.mem_of_getElem? (i := 18) rfl) rfl, by decide +kernel⟩
set_option maxRecDepth 20000 in
theorem k_mf_J0_coder_7d493 : iv_MF iv_W0 yJ0_coder_7d493 cJ0_coder_7d493 1 (some .byte) 0 := ⟨k_c3 (List.mem_of_getElem? (i := 216) rfl) rfl, k_c1 (List.mem_of_getElem? (i := 18) rfl) rfl, by decide +kernel⟩
set_option maxRecDepth 20000 in
theorem k_mf_J0_indexOf_0f7a4 : iv_MF iv_W0 yJ0_indexOf_0f7a4 cJ0_indexOf_0f7a4 2 (some .int) 1 := ⟨k_c4 (List.mem_of_getElem? (i := 21) rfl) rfl, k_c1 (List.mem_of_getElem? (i := 18) rfl) rfl, by decide +kernel⟩
set_option maxRecDepth 20000 in
theorem k_mf_J0_indexOf_7cf53 : iv_MF iv_W0 yJ0_indexOf_7cf53 cJ0_indexOf_7cf53 3 (some .int) 2 := ⟨k_c4 (List.mem_of_getElem? (i := 25) rfl) rfl, k_c1 (List.mem_of_getElem? (i := 18) rfl) rfl, by decide +kernel⟩
set_option maxRecDepth 20000 in
theorem k_mf_J0_isLatin1_aae02 : iv_MF iv_W0 yJ0_isLatin1_aae02 cJ0_isLatin1_aae02 1 (some .boolean) 0 := ⟨k_c3 (List.mem_of_getElem? (i := 226) rfl) rfl, k_c1 (List.mem_of_getElem? (i := 18) rfl) rfl, by decide +kernel⟩
set_option maxRecDepth 20000 in
theorem k_mf_J0_length_8abf5 : iv_MF iv_W0 yJ0_length_8abf5 cJ0_length_8abf5 1 (some .int) 0 := ⟨k_c3 (List.mem_of_getElem? (i := 212) rfl) rfl, k_c1 (List.mem_of_getElem? (i := 18) rfl) rfl, by decide +kernel⟩
set_option maxRecDepth 20000 in
theorem k_mf_J1_canEncode_9a6ad : iv_MF iv_W0 yJ1_canEncode_9a6ad cJ1_canEncode_9a6ad 1 (some .boolean) 1 := ⟨k_c4 (List.mem_of_getElem? (i := 32) rfl) rfl, k_c1 (List.mem_of_getElem? (i := 19) rfl) rfl, by decide +kernel⟩
set_option maxRecDepth 20000 in
theorem k_mf_J1_charAt_3b067 : iv_MF iv_W0 yJ1_charAt_3b067 cJ1_charAt_3b067 2 (some .char) 2 := ⟨k_c3 (List.mem_of_getElem? (i := 229) rfl) rfl, k_c1 (List.mem_of_getElem? (i := 19) rfl) rfl, by decide +kernel⟩
set_option maxRecDepth 20000 in
theorem k_mf_J1_indexOf_4cfef : iv_MF iv_W0 yJ1_indexOf_4cfef cJ1_indexOf_4cfef 4 (some .int) 4 := ⟨k_c4 (List.mem_of_getElem? (i := 29) rfl) rfl, k_c1 (List.mem_of_getElem? (i := 19) rfl) rfl, by decide +kernel⟩
set_option maxRecDepth 20000 in
theorem k_mf_J1_indexOfChar_4cfef : iv_MF iv_W0 yJ1_indexOfChar_4cfef cJ1_indexOfChar_4cfef 6 (some .int) 4 := ⟨k_c4 (List.mem_of_getElem? (i := 37) rfl) rfl, k_c1 (List.mem_of_getElem? (i := 19) rfl) rfl, by decide +kernel⟩
set_option maxRecDepth 20000 in
theorem k_mf_J2_charAt_3b067 : iv_MF iv_W0 yJ2_charAt_3b067 cJ2_charAt_3b067 2 (some .char) 2 := ⟨k_c4 (List.mem_of_getElem? (i := 0) rfl) rfl, k_c1 (List.mem_of_getElem? (i := 21) rfl) rfl, by decide +kernel⟩
set_option maxRecDepth 20000 in
theorem k_mf_J2_checkBoundsBeginEnd_d044e : iv_MF iv_W0 yJ2_checkBoundsBeginEnd_d044e cJ2_checkBoundsBeginEnd_d044e 3 none 3 := ⟨k_c4 (List.mem_of_getElem? (i := 49) rfl) rfl, k_c1 (List.mem_of_getElem? (i := 21) rfl) rfl, by decide +kernel⟩
set_option maxRecDepth 20000 in
theorem k_mf_J2_checkIndex_2214a : iv_MF iv_W0 yJ2_checkIndex_2214a cJ2_checkIndex_2214a 2 none 2 := ⟨k_c4 (List.mem_of_getElem? (i := 3) rfl) rfl, k_c1 (List.mem_of_getElem? (i := 21) rfl) rfl, by decide +kernel⟩
set_option maxRecDepth 20000 in
theorem k_mf_J2_getChar_3b067 : iv_MF iv_W0 yJ2_getChar_3b067 cJ2_getChar_3b067 2 (some .char) 2 := ⟨k_c4 (List.mem_of_getElem? (i := 10) rfl) rfl, k_c1 (List.mem_of_getElem? (i := 21) rfl) rfl, by decide +kernel⟩
set_option maxRecDepth 20000 in
theorem k_mf_J2_indexOf_4cfef : iv_MF iv_W0 yJ2_indexOf_4cfef cJ2_indexOf_4cfef 4 (some .int) 4 := ⟨k_c4 (List.mem_of_getElem? (i := 40) rfl) rfl, k_c1 (List.mem_of_getElem? (i := 21) rfl) rfl, by decide +kernel⟩
set_option maxRecDepth 20000 in
theorem k_mf_J2_indexOfChar_4cfef : iv_MF iv_W0 yJ2_indexOfChar_4cfef cJ2_indexOfChar_4cfef 4 (some .int) 4 := ⟨k_c4 (List.mem_of_getElem? (i := 46) rfl) rfl, k_c1 (List.mem_of_getElem? (i := 21) rfl) rfl, by decide +kernel⟩
set_option maxRecDepth 20000 in
theorem k_mf_J2_indexOfCharUnsafe_4cfef : iv_MF iv_W0 yJ2_indexOfCharUnsafe_4cfef cJ2_indexOfCharUnsafe_4cfef 5 (some .int) 4 := ⟨k_c4 (List.mem_of_getElem? (i := 58) rfl) rfl, k_c1 (List.mem_of_getElem? (i := 21) rfl) rfl, by decide +kernel⟩
set_option maxRecDepth 20000 in
theorem k_mf_J2_indexOfSupplementary_4cfef : iv_MF iv_W0 yJ2_indexOfSupplementary_4cfef cJ2_indexOfSupplementary_4cfef 7 (some .int) 4 := ⟨k_c4 (List.mem_of_getElem? (i := 61) rfl) rfl, k_c1 (List.mem_of_getElem? (i := 21) rfl) rfl, by decide +kernel⟩
set_option maxRecDepth 20000 in
theorem k_mf_J2_length_9d52b : iv_MF iv_W0 yJ2_length_9d52b cJ2_length_9d52b 1 (some .int) 1 := ⟨k_c4 (List.mem_of_getElem? (i := 6) rfl) rfl, k_c1 (List.mem_of_getElem? (i := 21) rfl) rfl, by decide +kernel⟩
set_option maxRecDepth 20000 in
theorem k_mf_J7_copyOf_59c91 : iv_MF iv_W0 yJ7_copyOf_59c91 cJ7_copyOf_59c91 3 (some (.array .int)) 2 := ⟨k_c1 (List.mem_of_getElem? (i := 70) rfl) rfl, k_c1 (List.mem_of_getElem? (i := 5) rfl) rfl, by decide +kernel⟩
set_option maxRecDepth 20000 in
theorem k_mf_J7_fill_53178 : iv_MF iv_W0 yJ7_fill_53178 cJ7_fill_53178 4 none 2 := ⟨k_c4 (List.mem_of_getElem? (i := 83) rfl) rfl, k_c1 (List.mem_of_getElem? (i := 5) rfl) rfl, by decide +kernel⟩
set_option maxRecDepth 20000 in
theorem k_mf_J3_checkFromToIndex_8c36e : iv_MF iv_W0 yJ3_checkFromToIndex_8c36e cJ3_checkFromToIndex_8c36e 4 (some .int) 4 := ⟨k_c4 (List.mem_of_getElem? (i := 55) rfl) rfl, k_c1 (List.mem_of_getElem? (i := 20) rfl) rfl, by decide +kernel⟩
set_option maxRecDepth 20000 in
theorem k_mf_J3_checkIndex_8e157 : iv_MF iv_W0 yJ3_checkIndex_8e157 cJ3_checkIndex_8e157 3 (some .int) 3 := ⟨k_c3 (List.mem_of_getElem? (i := 237) rfl) rfl, k_c1 (List.mem_of_getElem? (i := 20) rfl) rfl, by decide +kernel⟩
set_option maxRecDepth 20000 in
theorem k_ct_X5_117 : Cond.constant RX5 117 (1664525) ∈ iv_W0 := k_c3 (List.mem_of_getElem? (i := 125) rfl) rfl
set_option maxRecDepth 20000 in
theorem k_ct_X5_118 : Cond.constant RX5 118 (1013904223) ∈ iv_W0 := k_c3 (List.mem_of_getElem? (i := 126) rfl) rfl
set_option maxRecDepth 20000 in
theorem k_ct_X11_296 : Cond.constant RX11 296 (16777215) ∈ iv_W0 := k_c4 (List.mem_of_getElem? (i := 231) rfl) rfl
set_option maxRecDepth 20000 in
theorem k_ct_X11_305 : Cond.constant RX11 305 (1000000) ∈ iv_W0 := k_c5 (List.mem_of_getElem? (i := 17) rfl) rfl
set_option maxRecDepth 20000 in
theorem k_ct_X12_395 : Cond.constant RX12 395 (1000000) ∈ iv_W0 := k_c8 (List.mem_of_getElem? (i := 57) rfl) rfl
set_option maxRecDepth 20000 in
theorem k_ct_X12_66 : Cond.constant RX12 66 (1664525) ∈ iv_W0 := k_c7 (List.mem_of_getElem? (i := 188) rfl) rfl
set_option maxRecDepth 20000 in
theorem k_ct_X12_67 : Cond.constant RX12 67 (1013904223) ∈ iv_W0 := k_c7 (List.mem_of_getElem? (i := 189) rfl) rfl
set_option maxRecDepth 20000 in
theorem k_ct_J11_110 : Cond.constant RJ11 110 (55232) ∈ iv_W0 := k_c4 (List.mem_of_getElem? (i := 68) rfl) rfl
set_option maxRecDepth 20000 in
theorem k_ct_J11_76 : Cond.constant RJ11 76 (56320) ∈ iv_W0 := k_c4 (List.mem_of_getElem? (i := 72) rfl) rfl
set_option maxRecDepth 20000 in
theorem k_ct_J6_265 : Cond.constant RJ6 265 (1431655765) ∈ iv_W0 := k_c3 (List.mem_of_getElem? (i := 116) rfl) rfl
set_option maxRecDepth 20000 in
theorem k_ct_J6_266 : Cond.constant RJ6 266 (858993459) ∈ iv_W0 := k_c3 (List.mem_of_getElem? (i := 117) rfl) rfl
set_option maxRecDepth 20000 in
theorem k_ct_J6_267 : Cond.constant RJ6 267 (252645135) ∈ iv_W0 := k_c3 (List.mem_of_getElem? (i := 118) rfl) rfl
set_option maxRecDepth 20000 in
theorem k_ct_J2_227 : Cond.constant RJ2 227 (65536) ∈ iv_W0 := k_c4 (List.mem_of_getElem? (i := 43) rfl) rfl
set_option maxRecDepth 20000 in
theorem k_fl_X0_108 : Cond.fieldLink RX0 108 (TX5 9).1 (TX5 9).2.1 (TX5 9).2.2.1 ∈ iv_W0 := k_c1 (List.mem_of_getElem? (i := 208) rfl) rfl
set_option maxRecDepth 20000 in
theorem k_fl_X0_15 : Cond.fieldLink RX0 15 (TX0 1).1 (TX0 1).2.1 (TX0 1).2.2.1 ∈ iv_W0 := k_c2 (List.mem_of_getElem? (i := 134) rfl) rfl
set_option maxRecDepth 20000 in
theorem k_fl_X0_19 : Cond.fieldLink RX0 19 (TX5 1).1 (TX5 1).2.1 (TX5 1).2.2.1 ∈ iv_W0 := k_c1 (List.mem_of_getElem? (i := 174) rfl) rfl
set_option maxRecDepth 20000 in
theorem k_fl_X0_35 : Cond.fieldLink RX0 35 (TX5 0).1 (TX5 0).2.1 (TX5 0).2.2.1 ∈ iv_W0 := k_c1 (List.mem_of_getElem? (i := 170) rfl) rfl
set_option maxRecDepth 20000 in
theorem k_fl_X0_39 : Cond.fieldLink RX0 39 (TX1 7).1 (TX1 7).2.1 (TX1 7).2.2.1 ∈ iv_W0 := k_c1 (List.mem_of_getElem? (i := 147) rfl) rfl
set_option maxRecDepth 20000 in
theorem k_fl_X0_49 : Cond.fieldLink RX0 49 (TX1 3).1 (TX1 3).2.1 (TX1 3).2.2.1 ∈ iv_W0 := k_c1 (List.mem_of_getElem? (i := 128) rfl) rfl
set_option maxRecDepth 20000 in
theorem k_fl_X0_62 : Cond.fieldLink RX0 62 (TX5 5).1 (TX5 5).2.1 (TX5 5).2.2.1 ∈ iv_W0 := k_c1 (List.mem_of_getElem? (i := 191) rfl) rfl
set_option maxRecDepth 20000 in
theorem k_fl_X0_65 : Cond.fieldLink RX0 65 (TX5 4).1 (TX5 4).2.1 (TX5 4).2.2.1 ∈ iv_W0 := k_c1 (List.mem_of_getElem? (i := 187) rfl) rfl
set_option maxRecDepth 20000 in
theorem k_fl_X0_68 : Cond.fieldLink RX0 68 (TX5 6).1 (TX5 6).2.1 (TX5 6).2.2.1 ∈ iv_W0 := k_c1 (List.mem_of_getElem? (i := 195) rfl) rfl
set_option maxRecDepth 20000 in
theorem k_fl_X0_71 : Cond.fieldLink RX0 71 (TX1 0).1 (TX1 0).2.1 (TX1 0).2.2.1 ∈ iv_W0 := k_c1 (List.mem_of_getElem? (i := 113) rfl) rfl
set_option maxRecDepth 20000 in
theorem k_fl_X0_88 : Cond.fieldLink RX0 88 (TX1 4).1 (TX1 4).2.1 (TX1 4).2.2.1 ∈ iv_W0 := k_c1 (List.mem_of_getElem? (i := 134) rfl) rfl
set_option maxRecDepth 20000 in
theorem k_fl_X0_9 : Cond.fieldLink RX0 9 (TX0 0).1 (TX0 0).2.1 (TX0 0).2.2.1 ∈ iv_W0 := k_c2 (List.mem_of_getElem? (i := 133) rfl) rfl
set_option maxRecDepth 20000 in
theorem k_fl_X0_91 : Cond.fieldLink RX0 91 (TX1 6).1 (TX1 6).2.1 (TX1 6).2.2.1 ∈ iv_W0 := k_c1 (List.mem_of_getElem? (i := 142) rfl) rfl
set_option maxRecDepth 20000 in
theorem k_fl_X0_94 : Cond.fieldLink RX0 94 (TX5 8).1 (TX5 8).2.1 (TX5 8).2.2.1 ∈ iv_W0 := k_c1 (List.mem_of_getElem? (i := 203) rfl) rfl
set_option maxRecDepth 20000 in
theorem k_fl_X1_15 : Cond.fieldLink RX1 15 (TX1 1).1 (TX1 1).2.1 (TX1 1).2.2.1 ∈ iv_W0 := k_c1 (List.mem_of_getElem? (i := 117) rfl) rfl
set_option maxRecDepth 20000 in
theorem k_fl_X1_18 : Cond.fieldLink RX1 18 (TX1 2).1 (TX1 2).2.1 (TX1 2).2.2.1 ∈ iv_W0 := k_c1 (List.mem_of_getElem? (i := 122) rfl) rfl
set_option maxRecDepth 20000 in
theorem k_fl_X1_21 : Cond.fieldLink RX1 21 (TX1 3).1 (TX1 3).2.1 (TX1 3).2.2.1 ∈ iv_W0 := k_c1 (List.mem_of_getElem? (i := 126) rfl) rfl
set_option maxRecDepth 20000 in
theorem k_fl_X1_24 : Cond.fieldLink RX1 24 (TX1 4).1 (TX1 4).2.1 (TX1 4).2.2.1 ∈ iv_W0 := k_c1 (List.mem_of_getElem? (i := 132) rfl) rfl
set_option maxRecDepth 20000 in
theorem k_fl_X1_27 : Cond.fieldLink RX1 27 (TX1 5).1 (TX1 5).2.1 (TX1 5).2.2.1 ∈ iv_W0 := k_c1 (List.mem_of_getElem? (i := 136) rfl) rfl
set_option maxRecDepth 20000 in
theorem k_fl_X1_30 : Cond.fieldLink RX1 30 (TX1 6).1 (TX1 6).2.1 (TX1 6).2.2.1 ∈ iv_W0 := k_c1 (List.mem_of_getElem? (i := 140) rfl) rfl
set_option maxRecDepth 20000 in
theorem k_fl_X1_33 : Cond.fieldLink RX1 33 (TX1 7).1 (TX1 7).2.1 (TX1 7).2.2.1 ∈ iv_W0 := k_c1 (List.mem_of_getElem? (i := 146) rfl) rfl
set_option maxRecDepth 20000 in
theorem k_fl_X1_9 : Cond.fieldLink RX1 9 (TX1 0).1 (TX1 0).2.1 (TX1 0).2.2.1 ∈ iv_W0 := k_c1 (List.mem_of_getElem? (i := 112) rfl) rfl
set_option maxRecDepth 20000 in
theorem k_fl_X2_117 : Cond.fieldLink RX2 117 (TX5 14).1 (TX5 14).2.1 (TX5 14).2.2.1 ∈ iv_W0 := k_c1 (List.mem_of_getElem? (i := 222) rfl) rfl
set_option maxRecDepth 20000 in
theorem k_fl_X2_15 : Cond.fieldLink RX2 15 (TX2 0).1 (TX2 0).2.1 (TX2 0).2.2.1 ∈ iv_W0 := k_c2 (List.mem_of_getElem? (i := 120) rfl) rfl
set_option maxRecDepth 20000 in
theorem k_fl_X2_19 : Cond.fieldLink RX2 19 (TX5 0).1 (TX5 0).2.1 (TX5 0).2.2.1 ∈ iv_W0 := k_c1 (List.mem_of_getElem? (i := 169) rfl) rfl
set_option maxRecDepth 20000 in
theorem k_fl_X2_25 : Cond.fieldLink RX2 25 (TX1 2).1 (TX1 2).2.1 (TX1 2).2.2.1 ∈ iv_W0 := k_c1 (List.mem_of_getElem? (i := 123) rfl) rfl
set_option maxRecDepth 20000 in
theorem k_fl_X2_31 : Cond.fieldLink RX2 31 (TX1 1).1 (TX1 1).2.1 (TX1 1).2.2.1 ∈ iv_W0 := k_c1 (List.mem_of_getElem? (i := 118) rfl) rfl
set_option maxRecDepth 20000 in
theorem k_fl_X2_34 : Cond.fieldLink RX2 34 (TX1 3).1 (TX1 3).2.1 (TX1 3).2.2.1 ∈ iv_W0 := k_c1 (List.mem_of_getElem? (i := 127) rfl) rfl
set_option maxRecDepth 20000 in
theorem k_fl_X2_37 : Cond.fieldLink RX2 37 (TX1 4).1 (TX1 4).2.1 (TX1 4).2.2.1 ∈ iv_W0 := k_c1 (List.mem_of_getElem? (i := 133) rfl) rfl
set_option maxRecDepth 20000 in
theorem k_fl_X2_40 : Cond.fieldLink RX2 40 (TX5 4).1 (TX5 4).2.1 (TX5 4).2.2.1 ∈ iv_W0 := k_c1 (List.mem_of_getElem? (i := 185) rfl) rfl
set_option maxRecDepth 20000 in
theorem k_fl_X2_43 : Cond.fieldLink RX2 43 (TX1 5).1 (TX1 5).2.1 (TX1 5).2.2.1 ∈ iv_W0 := k_c1 (List.mem_of_getElem? (i := 137) rfl) rfl
set_option maxRecDepth 20000 in
theorem k_fl_X2_46 : Cond.fieldLink RX2 46 (TX1 7).1 (TX1 7).2.1 (TX1 7).2.2.1 ∈ iv_W0 := k_c1 (List.mem_of_getElem? (i := 148) rfl) rfl
set_option maxRecDepth 20000 in
theorem k_fl_X2_49 : Cond.fieldLink RX2 49 (TX5 6).1 (TX5 6).2.1 (TX5 6).2.2.1 ∈ iv_W0 := k_c1 (List.mem_of_getElem? (i := 194) rfl) rfl
set_option maxRecDepth 20000 in
theorem k_fl_X2_56 : Cond.fieldLink RX2 56 (TX5 13).1 (TX5 13).2.1 (TX5 13).2.2.1 ∈ iv_W0 := k_c1 (List.mem_of_getElem? (i := 219) rfl) rfl
set_option maxRecDepth 20000 in
theorem k_fl_X2_75 : Cond.fieldLink RX2 75 (TX1 0).1 (TX1 0).2.1 (TX1 0).2.2.1 ∈ iv_W0 := k_c1 (List.mem_of_getElem? (i := 114) rfl) rfl
set_option maxRecDepth 20000 in
theorem k_fl_X2_85 : Cond.fieldLink RX2 85 (TX5 1).1 (TX5 1).2.1 (TX5 1).2.2.1 ∈ iv_W0 := k_c1 (List.mem_of_getElem? (i := 179) rfl) rfl
set_option maxRecDepth 20000 in
theorem k_fl_X2_9 : Cond.fieldLink RX2 9 (TX2 1).1 (TX2 1).2.1 (TX2 1).2.2.1 ∈ iv_W0 := k_c2 (List.mem_of_getElem? (i := 121) rfl) rfl
set_option maxRecDepth 20000 in
theorem k_fl_X3_11 : Cond.fieldLink RX3 11 (TX3 6).1 (TX3 6).2.1 (TX3 6).2.2.1 ∈ iv_W0 := k_c1 (List.mem_of_getElem? (i := 91) rfl) rfl
set_option maxRecDepth 20000 in
theorem k_fl_X3_15 : Cond.fieldLink RX3 15 (TX3 0).1 (TX3 0).2.1 (TX3 0).2.2.1 ∈ iv_W0 := k_c1 (List.mem_of_getElem? (i := 84) rfl) rfl
set_option maxRecDepth 20000 in
theorem k_fl_X3_25 : Cond.fieldLink RX3 25 (TX3 1).1 (TX3 1).2.1 (TX3 1).2.2.1 ∈ iv_W0 := k_c1 (List.mem_of_getElem? (i := 86) rfl) rfl
set_option maxRecDepth 20000 in
theorem k_fl_X3_28 : Cond.fieldLink RX3 28 (TX3 2).1 (TX3 2).2.1 (TX3 2).2.2.1 ∈ iv_W0 := k_c1 (List.mem_of_getElem? (i := 87) rfl) rfl
set_option maxRecDepth 20000 in
theorem k_fl_X3_31 : Cond.fieldLink RX3 31 (TX3 3).1 (TX3 3).2.1 (TX3 3).2.2.1 ∈ iv_W0 := k_c1 (List.mem_of_getElem? (i := 88) rfl) rfl
set_option maxRecDepth 20000 in
theorem k_fl_X3_34 : Cond.fieldLink RX3 34 (TX3 4).1 (TX3 4).2.1 (TX3 4).2.2.1 ∈ iv_W0 := k_c1 (List.mem_of_getElem? (i := 89) rfl) rfl
set_option maxRecDepth 20000 in
theorem k_fl_X3_37 : Cond.fieldLink RX3 37 (TX3 5).1 (TX3 5).2.1 (TX3 5).2.2.1 ∈ iv_W0 := k_c1 (List.mem_of_getElem? (i := 90) rfl) rfl
set_option maxRecDepth 20000 in
theorem k_fl_X4_15 : Cond.fieldLink RX4 15 (TX4 2).1 (TX4 2).2.1 (TX4 2).2.2.1 ∈ iv_W0 := k_c2 (List.mem_of_getElem? (i := 161) rfl) rfl
set_option maxRecDepth 20000 in
theorem k_fl_X4_18 : Cond.fieldLink RX4 18 (TX4 4).1 (TX4 4).2.1 (TX4 4).2.2.1 ∈ iv_W0 := k_c2 (List.mem_of_getElem? (i := 163) rfl) rfl
set_option maxRecDepth 20000 in
theorem k_fl_X4_21 : Cond.fieldLink RX4 21 (TX4 0).1 (TX4 0).2.1 (TX4 0).2.2.1 ∈ iv_W0 := k_c2 (List.mem_of_getElem? (i := 159) rfl) rfl
set_option maxRecDepth 20000 in
theorem k_fl_X4_33 : Cond.fieldLink RX4 33 (TX5 1).1 (TX5 1).2.1 (TX5 1).2.2.1 ∈ iv_W0 := k_c1 (List.mem_of_getElem? (i := 177) rfl) rfl
set_option maxRecDepth 20000 in
theorem k_fl_X4_61 : Cond.fieldLink RX4 61 (TX4 3).1 (TX4 3).2.1 (TX4 3).2.2.1 ∈ iv_W0 := k_c2 (List.mem_of_getElem? (i := 162) rfl) rfl
set_option maxRecDepth 20000 in
theorem k_fl_X4_9 : Cond.fieldLink RX4 9 (TX4 1).1 (TX4 1).2.1 (TX4 1).2.2.1 ∈ iv_W0 := k_c2 (List.mem_of_getElem? (i := 160) rfl) rfl
set_option maxRecDepth 20000 in
theorem k_fl_X5_109 : Cond.fieldLink RX5 109 (TX1 1).1 (TX1 1).2.1 (TX1 1).2.2.1 ∈ iv_W0 := k_c1 (List.mem_of_getElem? (i := 121) rfl) rfl
set_option maxRecDepth 20000 in
theorem k_fl_X5_11 : Cond.fieldLink RX5 11 (TX5 0).1 (TX5 0).2.1 (TX5 0).2.2.1 ∈ iv_W0 := k_c1 (List.mem_of_getElem? (i := 168) rfl) rfl
set_option maxRecDepth 20000 in
theorem k_fl_X5_17 : Cond.fieldLink RX5 17 (TX5 2).1 (TX5 2).2.1 (TX5 2).2.2.1 ∈ iv_W0 := k_c1 (List.mem_of_getElem? (i := 180) rfl) rfl
set_option maxRecDepth 20000 in
theorem k_fl_X5_21 : Cond.fieldLink RX5 21 (TX5 3).1 (TX5 3).2.1 (TX5 3).2.2.1 ∈ iv_W0 := k_c1 (List.mem_of_getElem? (i := 182) rfl) rfl
set_option maxRecDepth 20000 in
theorem k_fl_X5_30 : Cond.fieldLink RX5 30 (TX5 8).1 (TX5 8).2.1 (TX5 8).2.2.1 ∈ iv_W0 := k_c1 (List.mem_of_getElem? (i := 201) rfl) rfl
set_option maxRecDepth 20000 in
theorem k_fl_X5_34 : Cond.fieldLink RX5 34 (TX5 9).1 (TX5 9).2.1 (TX5 9).2.2.1 ∈ iv_W0 := k_c1 (List.mem_of_getElem? (i := 206) rfl) rfl
set_option maxRecDepth 20000 in
theorem k_fl_X5_37 : Cond.fieldLink RX5 37 (TX5 10).1 (TX5 10).2.1 (TX5 10).2.2.1 ∈ iv_W0 := k_c1 (List.mem_of_getElem? (i := 210) rfl) rfl
set_option maxRecDepth 20000 in
theorem k_fl_X5_40 : Cond.fieldLink RX5 40 (TX5 11).1 (TX5 11).2.1 (TX5 11).2.2.1 ∈ iv_W0 := k_c1 (List.mem_of_getElem? (i := 213) rfl) rfl
set_option maxRecDepth 20000 in
theorem k_fl_X5_49 : Cond.fieldLink RX5 49 (TX5 13).1 (TX5 13).2.1 (TX5 13).2.2.1 ∈ iv_W0 := k_c1 (List.mem_of_getElem? (i := 218) rfl) rfl
set_option maxRecDepth 20000 in
theorem k_fl_X5_53 : Cond.fieldLink RX5 53 (TX5 14).1 (TX5 14).2.1 (TX5 14).2.2.1 ∈ iv_W0 := k_c1 (List.mem_of_getElem? (i := 221) rfl) rfl
set_option maxRecDepth 20000 in
theorem k_fl_X5_61 : Cond.fieldLink RX5 61 (TX5 1).1 (TX5 1).2.1 (TX5 1).2.2.1 ∈ iv_W0 := k_c1 (List.mem_of_getElem? (i := 176) rfl) rfl
set_option maxRecDepth 20000 in
theorem k_fl_X5_70 : Cond.fieldLink RX5 70 (TX5 4).1 (TX5 4).2.1 (TX5 4).2.2.1 ∈ iv_W0 := k_c1 (List.mem_of_getElem? (i := 186) rfl) rfl
set_option maxRecDepth 20000 in
theorem k_fl_X5_73 : Cond.fieldLink RX5 73 (TX5 5).1 (TX5 5).2.1 (TX5 5).2.2.1 ∈ iv_W0 := k_c1 (List.mem_of_getElem? (i := 190) rfl) rfl
set_option maxRecDepth 20000 in
theorem k_fl_X5_76 : Cond.fieldLink RX5 76 (TX5 6).1 (TX5 6).2.1 (TX5 6).2.2.1 ∈ iv_W0 := k_c1 (List.mem_of_getElem? (i := 193) rfl) rfl
set_option maxRecDepth 20000 in
theorem k_fl_X5_79 : Cond.fieldLink RX5 79 (TX5 7).1 (TX5 7).2.1 (TX5 7).2.2.1 ∈ iv_W0 := k_c1 (List.mem_of_getElem? (i := 199) rfl) rfl
set_option maxRecDepth 20000 in
theorem k_fl_X5_85 : Cond.fieldLink RX5 85 (TX5 12).1 (TX5 12).2.1 (TX5 12).2.2.1 ∈ iv_W0 := k_c1 (List.mem_of_getElem? (i := 216) rfl) rfl
set_option maxRecDepth 20000 in
theorem k_fl_X5_92 : Cond.fieldLink RX5 92 (TX1 6).1 (TX1 6).2.1 (TX1 6).2.2.1 ∈ iv_W0 := k_c1 (List.mem_of_getElem? (i := 143) rfl) rfl
set_option maxRecDepth 20000 in
theorem k_fl_X6_13 : Cond.fieldLink RX6 13 (TX6 0).1 (TX6 0).2.1 (TX6 0).2.2.1 ∈ iv_W0 := k_c2 (List.mem_of_getElem? (i := 23) rfl) rfl
set_option maxRecDepth 20000 in
theorem k_fl_X6_16 : Cond.fieldLink RX6 16 (TX6 2).1 (TX6 2).2.1 (TX6 2).2.2.1 ∈ iv_W0 := k_c2 (List.mem_of_getElem? (i := 25) rfl) rfl
set_option maxRecDepth 20000 in
theorem k_fl_X6_20 : Cond.fieldLink RX6 20 (TX6 1).1 (TX6 1).2.1 (TX6 1).2.2.1 ∈ iv_W0 := k_c2 (List.mem_of_getElem? (i := 24) rfl) rfl
set_option maxRecDepth 20000 in
theorem k_fl_X6_29 : Cond.fieldLink RX6 29 (TX5 0).1 (TX5 0).2.1 (TX5 0).2.2.1 ∈ iv_W0 := k_c1 (List.mem_of_getElem? (i := 171) rfl) rfl
set_option maxRecDepth 20000 in
theorem k_fl_X6_35 : Cond.fieldLink RX6 35 (TX1 3).1 (TX1 3).2.1 (TX1 3).2.2.1 ∈ iv_W0 := k_c1 (List.mem_of_getElem? (i := 129) rfl) rfl
set_option maxRecDepth 20000 in
theorem k_fl_X6_40 : Cond.fieldLink RX6 40 (TX1 5).1 (TX1 5).2.1 (TX1 5).2.2.1 ∈ iv_W0 := k_c1 (List.mem_of_getElem? (i := 138) rfl) rfl
set_option maxRecDepth 20000 in
theorem k_fl_X6_43 : Cond.fieldLink RX6 43 (TX1 6).1 (TX1 6).2.1 (TX1 6).2.2.1 ∈ iv_W0 := k_c1 (List.mem_of_getElem? (i := 141) rfl) rfl
set_option maxRecDepth 20000 in
theorem k_fl_X6_46 : Cond.fieldLink RX6 46 (TX1 7).1 (TX1 7).2.1 (TX1 7).2.2.1 ∈ iv_W0 := k_c1 (List.mem_of_getElem? (i := 149) rfl) rfl
set_option maxRecDepth 20000 in
theorem k_fl_X6_49 : Cond.fieldLink RX6 49 (TX5 8).1 (TX5 8).2.1 (TX5 8).2.2.1 ∈ iv_W0 := k_c1 (List.mem_of_getElem? (i := 202) rfl) rfl
set_option maxRecDepth 20000 in
theorem k_fl_X6_58 : Cond.fieldLink RX6 58 (TX8 2).1 (TX8 2).2.1 (TX8 2).2.2.1 ∈ iv_W0 := k_c1 (List.mem_of_getElem? (i := 48) rfl) rfl
set_option maxRecDepth 20000 in
theorem k_fl_X6_61 : Cond.fieldLink RX6 61 (TX5 9).1 (TX5 9).2.1 (TX5 9).2.2.1 ∈ iv_W0 := k_c1 (List.mem_of_getElem? (i := 207) rfl) rfl
set_option maxRecDepth 20000 in
theorem k_fl_X6_64 : Cond.fieldLink RX6 64 (TX5 6).1 (TX5 6).2.1 (TX5 6).2.2.1 ∈ iv_W0 := k_c1 (List.mem_of_getElem? (i := 196) rfl) rfl
set_option maxRecDepth 20000 in
theorem k_fl_X6_67 : Cond.fieldLink RX6 67 (TX5 4).1 (TX5 4).2.1 (TX5 4).2.2.1 ∈ iv_W0 := k_c1 (List.mem_of_getElem? (i := 188) rfl) rfl
set_option maxRecDepth 20000 in
theorem k_fl_X6_70 : Cond.fieldLink RX6 70 (TX5 7).1 (TX5 7).2.1 (TX5 7).2.2.1 ∈ iv_W0 := k_c1 (List.mem_of_getElem? (i := 200) rfl) rfl
set_option maxRecDepth 20000 in
theorem k_fl_X7_12 : Cond.fieldLink RX7 12 (TX7 0).1 (TX7 0).2.1 (TX7 0).2.2.1 ∈ iv_W0 := k_c2 (List.mem_of_getElem? (i := 59) rfl) rfl
set_option maxRecDepth 20000 in
theorem k_fl_X7_18 : Cond.fieldLink RX7 18 (TX7 7).1 (TX7 7).2.1 (TX7 7).2.2.1 ∈ iv_W0 := k_c2 (List.mem_of_getElem? (i := 67) rfl) rfl
set_option maxRecDepth 20000 in
theorem k_fl_X7_22 : Cond.fieldLink RX7 22 (TX7 9).1 (TX7 9).2.1 (TX7 9).2.2.1 ∈ iv_W0 := k_c2 (List.mem_of_getElem? (i := 71) rfl) rfl
set_option maxRecDepth 20000 in
theorem k_fl_X7_26 : Cond.fieldLink RX7 26 (TX7 10).1 (TX7 10).2.1 (TX7 10).2.2.1 ∈ iv_W0 := k_c2 (List.mem_of_getElem? (i := 73) rfl) rfl
set_option maxRecDepth 20000 in
theorem k_fl_X7_29 : Cond.fieldLink RX7 29 (TX7 11).1 (TX7 11).2.1 (TX7 11).2.2.1 ∈ iv_W0 := k_c2 (List.mem_of_getElem? (i := 75) rfl) rfl
set_option maxRecDepth 20000 in
theorem k_fl_X7_32 : Cond.fieldLink RX7 32 (TX7 12).1 (TX7 12).2.1 (TX7 12).2.2.1 ∈ iv_W0 := k_c2 (List.mem_of_getElem? (i := 77) rfl) rfl
set_option maxRecDepth 20000 in
theorem k_fl_X7_35 : Cond.fieldLink RX7 35 (TX7 13).1 (TX7 13).2.1 (TX7 13).2.2.1 ∈ iv_W0 := k_c2 (List.mem_of_getElem? (i := 79) rfl) rfl
set_option maxRecDepth 20000 in
theorem k_fl_X7_38 : Cond.fieldLink RX7 38 (TX7 14).1 (TX7 14).2.1 (TX7 14).2.2.1 ∈ iv_W0 := k_c2 (List.mem_of_getElem? (i := 81) rfl) rfl
set_option maxRecDepth 20000 in
theorem k_fl_X7_41 : Cond.fieldLink RX7 41 (TX7 6).1 (TX7 6).2.1 (TX7 6).2.2.1 ∈ iv_W0 := k_c2 (List.mem_of_getElem? (i := 65) rfl) rfl
set_option maxRecDepth 20000 in
theorem k_fl_X7_53 : Cond.fieldLink RX7 53 (TX7 2).1 (TX7 2).2.1 (TX7 2).2.2.1 ∈ iv_W0 := k_c2 (List.mem_of_getElem? (i := 61) rfl) rfl
set_option maxRecDepth 20000 in
theorem k_fl_X7_60 : Cond.fieldLink RX7 60 (TX7 4).1 (TX7 4).2.1 (TX7 4).2.2.1 ∈ iv_W0 := k_c2 (List.mem_of_getElem? (i := 63) rfl) rfl
set_option maxRecDepth 20000 in
theorem k_fl_X7_74 : Cond.fieldLink RX7 74 (TX7 8).1 (TX7 8).2.1 (TX7 8).2.2.1 ∈ iv_W0 := k_c2 (List.mem_of_getElem? (i := 69) rfl) rfl
set_option maxRecDepth 20000 in
theorem k_fl_X7_77 : Cond.fieldLink RX7 77 (TX7 5).1 (TX7 5).2.1 (TX7 5).2.2.1 ∈ iv_W0 := k_c2 (List.mem_of_getElem? (i := 64) rfl) rfl
set_option maxRecDepth 20000 in
theorem k_fl_X7_80 : Cond.fieldLink RX7 80 (TX7 1).1 (TX7 1).2.1 (TX7 1).2.2.1 ∈ iv_W0 := k_c2 (List.mem_of_getElem? (i := 60) rfl) rfl
set_option maxRecDepth 20000 in
theorem k_fl_X7_86 : Cond.fieldLink RX7 86 (TX10 0).1 (TX10 0).2.1 (TX10 0).2.2.1 ∈ iv_W0 := k_c2 (List.mem_of_getElem? (i := 47) rfl) rfl
set_option maxRecDepth 20000 in
theorem k_fl_X7_89 : Cond.fieldLink RX7 89 (TX10 2).1 (TX10 2).2.1 (TX10 2).2.2.1 ∈ iv_W0 := k_c2 (List.mem_of_getElem? (i := 51) rfl) rfl
set_option maxRecDepth 20000 in
theorem k_fl_X7_92 : Cond.fieldLink RX7 92 (TX7 3).1 (TX7 3).2.1 (TX7 3).2.2.1 ∈ iv_W0 := k_c2 (List.mem_of_getElem? (i := 62) rfl) rfl
set_option maxRecDepth 20000 in
theorem k_fl_X7_95 : Cond.fieldLink RX7 95 (TX10 1).1 (TX10 1).2.1 (TX10 1).2.2.1 ∈ iv_W0 := k_c2 (List.mem_of_getElem? (i := 49) rfl) rfl
set_option maxRecDepth 20000 in
theorem k_fl_X8_15 : Cond.fieldLink RX8 15 (TX8 1).1 (TX8 1).2.1 (TX8 1).2.2.1 ∈ iv_W0 := k_c1 (List.mem_of_getElem? (i := 46) rfl) rfl
set_option maxRecDepth 20000 in
theorem k_fl_X8_19 : Cond.fieldLink RX8 19 (TX8 2).1 (TX8 2).2.1 (TX8 2).2.2.1 ∈ iv_W0 := k_c1 (List.mem_of_getElem? (i := 47) rfl) rfl
set_option maxRecDepth 20000 in
theorem k_fl_X8_9 : Cond.fieldLink RX8 9 (TX8 0).1 (TX8 0).2.1 (TX8 0).2.2.1 ∈ iv_W0 := k_c1 (List.mem_of_getElem? (i := 45) rfl) rfl
set_option maxRecDepth 20000 in
theorem k_fl_X9_109 : Cond.fieldLink RX9 109 (TX5 8).1 (TX5 8).2.1 (TX5 8).2.2.1 ∈ iv_W0 := k_c1 (List.mem_of_getElem? (i := 205) rfl) rfl
set_option maxRecDepth 20000 in
theorem k_fl_X9_15 : Cond.fieldLink RX9 15 (TX9 0).1 (TX9 0).2.1 (TX9 0).2.2.1 ∈ iv_W0 := k_c2 (List.mem_of_getElem? (i := 146) rfl) rfl
set_option maxRecDepth 20000 in
theorem k_fl_X9_19 : Cond.fieldLink RX9 19 (TX5 1).1 (TX5 1).2.1 (TX5 1).2.2.1 ∈ iv_W0 := k_c1 (List.mem_of_getElem? (i := 175) rfl) rfl
set_option maxRecDepth 20000 in
theorem k_fl_X9_45 : Cond.fieldLink RX9 45 (TX5 0).1 (TX5 0).2.1 (TX5 0).2.2.1 ∈ iv_W0 := k_c1 (List.mem_of_getElem? (i := 172) rfl) rfl
set_option maxRecDepth 20000 in
theorem k_fl_X9_49 : Cond.fieldLink RX9 49 (TX1 6).1 (TX1 6).2.1 (TX1 6).2.2.1 ∈ iv_W0 := k_c1 (List.mem_of_getElem? (i := 144) rfl) rfl
set_option maxRecDepth 20000 in
theorem k_fl_X9_54 : Cond.fieldLink RX9 54 (TX1 2).1 (TX1 2).2.1 (TX1 2).2.2.1 ∈ iv_W0 := k_c1 (List.mem_of_getElem? (i := 124) rfl) rfl
set_option maxRecDepth 20000 in
theorem k_fl_X9_57 : Cond.fieldLink RX9 57 (TX1 3).1 (TX1 3).2.1 (TX1 3).2.2.1 ∈ iv_W0 := k_c1 (List.mem_of_getElem? (i := 130) rfl) rfl
set_option maxRecDepth 20000 in
theorem k_fl_X9_63 : Cond.fieldLink RX9 63 (TX1 1).1 (TX1 1).2.1 (TX1 1).2.2.1 ∈ iv_W0 := k_c1 (List.mem_of_getElem? (i := 120) rfl) rfl
set_option maxRecDepth 20000 in
theorem k_fl_X9_74 : Cond.fieldLink RX9 74 (TX5 3).1 (TX5 3).2.1 (TX5 3).2.2.1 ∈ iv_W0 := k_c1 (List.mem_of_getElem? (i := 184) rfl) rfl
set_option maxRecDepth 20000 in
theorem k_fl_X9_80 : Cond.fieldLink RX9 80 (TX5 10).1 (TX5 10).2.1 (TX5 10).2.2.1 ∈ iv_W0 := k_c1 (List.mem_of_getElem? (i := 211) rfl) rfl
set_option maxRecDepth 20000 in
theorem k_fl_X9_84 : Cond.fieldLink RX9 84 (TX8 2).1 (TX8 2).2.1 (TX8 2).2.2.1 ∈ iv_W0 := k_c1 (List.mem_of_getElem? (i := 50) rfl) rfl
set_option maxRecDepth 20000 in
theorem k_fl_X9_9 : Cond.fieldLink RX9 9 (TX9 1).1 (TX9 1).2.1 (TX9 1).2.2.1 ∈ iv_W0 := k_c2 (List.mem_of_getElem? (i := 147) rfl) rfl
set_option maxRecDepth 20000 in
theorem k_fl_X9_93 : Cond.fieldLink RX9 93 (TX5 11).1 (TX5 11).2.1 (TX5 11).2.2.1 ∈ iv_W0 := k_c1 (List.mem_of_getElem? (i := 214) rfl) rfl
set_option maxRecDepth 20000 in
theorem k_fl_X9_96 : Cond.fieldLink RX9 96 (TX1 0).1 (TX1 0).2.1 (TX1 0).2.2.1 ∈ iv_W0 := k_c1 (List.mem_of_getElem? (i := 115) rfl) rfl
set_option maxRecDepth 20000 in
theorem k_fl_X10_15 : Cond.fieldLink RX10 15 (TX10 1).1 (TX10 1).2.1 (TX10 1).2.2.1 ∈ iv_W0 := k_c2 (List.mem_of_getElem? (i := 48) rfl) rfl
set_option maxRecDepth 20000 in
theorem k_fl_X10_18 : Cond.fieldLink RX10 18 (TX10 2).1 (TX10 2).2.1 (TX10 2).2.2.1 ∈ iv_W0 := k_c2 (List.mem_of_getElem? (i := 50) rfl) rfl
set_option maxRecDepth 20000 in
theorem k_fl_X10_9 : Cond.fieldLink RX10 9 (TX10 0).1 (TX10 0).2.1 (TX10 0).2.2.1 ∈ iv_W0 := k_c2 (List.mem_of_getElem? (i := 46) rfl) rfl
set_option maxRecDepth 20000 in
theorem k_fl_X11_110 : Cond.fieldLink RX11 110 (TX5 3).1 (TX5 3).2.1 (TX5 3).2.2.1 ∈ iv_W0 := k_c1 (List.mem_of_getElem? (i := 183) rfl) rfl
set_option maxRecDepth 20000 in
theorem k_fl_X11_113 : Cond.fieldLink RX11 113 (TX5 4).1 (TX5 4).2.1 (TX5 4).2.2.1 ∈ iv_W0 := k_c1 (List.mem_of_getElem? (i := 189) rfl) rfl
set_option maxRecDepth 20000 in
theorem k_fl_X11_116 : Cond.fieldLink RX11 116 (TX5 5).1 (TX5 5).2.1 (TX5 5).2.2.1 ∈ iv_W0 := k_c1 (List.mem_of_getElem? (i := 192) rfl) rfl
set_option maxRecDepth 20000 in
theorem k_fl_X11_12 : Cond.fieldLink RX11 12 (TX11 0).1 (TX11 0).2.1 (TX11 0).2.2.1 ∈ iv_W0 := k_c2 (List.mem_of_getElem? (i := 175) rfl) rfl
set_option maxRecDepth 20000 in
theorem k_fl_X11_122 : Cond.fieldLink RX11 122 (TX1 3).1 (TX1 3).2.1 (TX1 3).2.2.1 ∈ iv_W0 := k_c1 (List.mem_of_getElem? (i := 131) rfl) rfl
set_option maxRecDepth 20000 in
theorem k_fl_X11_125 : Cond.fieldLink RX11 125 (TX1 4).1 (TX1 4).2.1 (TX1 4).2.2.1 ∈ iv_W0 := k_c1 (List.mem_of_getElem? (i := 135) rfl) rfl
set_option maxRecDepth 20000 in
theorem k_fl_X11_128 : Cond.fieldLink RX11 128 (TX1 1).1 (TX1 1).2.1 (TX1 1).2.2.1 ∈ iv_W0 := k_c1 (List.mem_of_getElem? (i := 119) rfl) rfl
set_option maxRecDepth 20000 in
theorem k_fl_X11_131 : Cond.fieldLink RX11 131 (TX1 6).1 (TX1 6).2.1 (TX1 6).2.2.1 ∈ iv_W0 := k_c1 (List.mem_of_getElem? (i := 145) rfl) rfl
set_option maxRecDepth 20000 in
theorem k_fl_X11_137 : Cond.fieldLink RX11 137 (TX5 9).1 (TX5 9).2.1 (TX5 9).2.2.1 ∈ iv_W0 := k_c1 (List.mem_of_getElem? (i := 209) rfl) rfl
set_option maxRecDepth 20000 in
theorem k_fl_X11_141 : Cond.fieldLink RX11 141 (TX5 6).1 (TX5 6).2.1 (TX5 6).2.2.1 ∈ iv_W0 := k_c1 (List.mem_of_getElem? (i := 197) rfl) rfl
set_option maxRecDepth 20000 in
theorem k_fl_X11_149 : Cond.fieldLink RX11 149 (TX1 5).1 (TX1 5).2.1 (TX1 5).2.2.1 ∈ iv_W0 := k_c1 (List.mem_of_getElem? (i := 139) rfl) rfl
set_option maxRecDepth 20000 in
theorem k_fl_X11_152 : Cond.fieldLink RX11 152 (TX5 8).1 (TX5 8).2.1 (TX5 8).2.2.1 ∈ iv_W0 := k_c1 (List.mem_of_getElem? (i := 204) rfl) rfl
set_option maxRecDepth 20000 in
theorem k_fl_X11_16 : Cond.fieldLink RX11 16 (TX11 1).1 (TX11 1).2.1 (TX11 1).2.2.1 ∈ iv_W0 := k_c2 (List.mem_of_getElem? (i := 176) rfl) rfl
set_option maxRecDepth 20000 in
theorem k_fl_X11_166 : Cond.fieldLink RX11 166 (TX8 2).1 (TX8 2).2.1 (TX8 2).2.2.1 ∈ iv_W0 := k_c1 (List.mem_of_getElem? (i := 49) rfl) rfl
set_option maxRecDepth 20000 in
theorem k_fl_X11_172 : Cond.fieldLink RX11 172 (TX11 5).1 (TX11 5).2.1 (TX11 5).2.2.1 ∈ iv_W0 := k_c2 (List.mem_of_getElem? (i := 180) rfl) rfl
set_option maxRecDepth 20000 in
theorem k_fl_X11_197 : Cond.fieldLink RX11 197 (TX7 8).1 (TX7 8).2.1 (TX7 8).2.2.1 ∈ iv_W0 := k_c2 (List.mem_of_getElem? (i := 70) rfl) rfl
set_option maxRecDepth 20000 in
theorem k_fl_X11_198 : Cond.fieldLink RX11 198 (TX7 9).1 (TX7 9).2.1 (TX7 9).2.2.1 ∈ iv_W0 := k_c2 (List.mem_of_getElem? (i := 72) rfl) rfl
set_option maxRecDepth 20000 in
theorem k_fl_X11_201 : Cond.fieldLink RX11 201 (TX5 11).1 (TX5 11).2.1 (TX5 11).2.2.1 ∈ iv_W0 := k_c1 (List.mem_of_getElem? (i := 215) rfl) rfl
set_option maxRecDepth 20000 in
theorem k_fl_X11_208 : Cond.fieldLink RX11 208 (TX5 12).1 (TX5 12).2.1 (TX5 12).2.2.1 ∈ iv_W0 := k_c1 (List.mem_of_getElem? (i := 217) rfl) rfl
set_option maxRecDepth 20000 in
theorem k_fl_X11_213 : Cond.fieldLink RX11 213 (TX7 10).1 (TX7 10).2.1 (TX7 10).2.2.1 ∈ iv_W0 := k_c2 (List.mem_of_getElem? (i := 74) rfl) rfl
set_option maxRecDepth 20000 in
theorem k_fl_X11_216 : Cond.fieldLink RX11 216 (TX7 11).1 (TX7 11).2.1 (TX7 11).2.2.1 ∈ iv_W0 := k_c2 (List.mem_of_getElem? (i := 76) rfl) rfl
set_option maxRecDepth 20000 in
theorem k_fl_X11_219 : Cond.fieldLink RX11 219 (TX7 12).1 (TX7 12).2.1 (TX7 12).2.2.1 ∈ iv_W0 := k_c2 (List.mem_of_getElem? (i := 78) rfl) rfl
set_option maxRecDepth 20000 in
theorem k_fl_X11_22 : Cond.fieldLink RX11 22 (TX11 3).1 (TX11 3).2.1 (TX11 3).2.2.1 ∈ iv_W0 := k_c2 (List.mem_of_getElem? (i := 178) rfl) rfl
set_option maxRecDepth 20000 in
theorem k_fl_X11_222 : Cond.fieldLink RX11 222 (TX7 13).1 (TX7 13).2.1 (TX7 13).2.2.1 ∈ iv_W0 := k_c2 (List.mem_of_getElem? (i := 80) rfl) rfl
set_option maxRecDepth 20000 in
theorem k_fl_X11_225 : Cond.fieldLink RX11 225 (TX7 14).1 (TX7 14).2.1 (TX7 14).2.2.1 ∈ iv_W0 := k_c2 (List.mem_of_getElem? (i := 82) rfl) rfl
set_option maxRecDepth 20000 in
theorem k_fl_X11_231 : Cond.fieldLink RX11 231 (TX5 13).1 (TX5 13).2.1 (TX5 13).2.2.1 ∈ iv_W0 := k_c1 (List.mem_of_getElem? (i := 220) rfl) rfl
set_option maxRecDepth 20000 in
theorem k_fl_X11_235 : Cond.fieldLink RX11 235 (TX5 14).1 (TX5 14).2.1 (TX5 14).2.2.1 ∈ iv_W0 := k_c1 (List.mem_of_getElem? (i := 223) rfl) rfl
set_option maxRecDepth 20000 in
theorem k_fl_X11_238 : Cond.fieldLink RX11 238 (TX7 6).1 (TX7 6).2.1 (TX7 6).2.2.1 ∈ iv_W0 := k_c2 (List.mem_of_getElem? (i := 66) rfl) rfl
set_option maxRecDepth 20000 in
theorem k_fl_X11_241 : Cond.fieldLink RX11 241 (TX7 7).1 (TX7 7).2.1 (TX7 7).2.2.1 ∈ iv_W0 := k_c2 (List.mem_of_getElem? (i := 68) rfl) rfl
set_option maxRecDepth 20000 in
theorem k_fl_X11_244 : Cond.fieldLink RX11 244 (TX1 0).1 (TX1 0).2.1 (TX1 0).2.2.1 ∈ iv_W0 := k_c1 (List.mem_of_getElem? (i := 116) rfl) rfl
set_option maxRecDepth 20000 in
theorem k_fl_X11_247 : Cond.fieldLink RX11 247 (TX1 2).1 (TX1 2).2.1 (TX1 2).2.2.1 ∈ iv_W0 := k_c1 (List.mem_of_getElem? (i := 125) rfl) rfl
set_option maxRecDepth 20000 in
theorem k_fl_X11_250 : Cond.fieldLink RX11 250 (TX1 7).1 (TX1 7).2.1 (TX1 7).2.2.1 ∈ iv_W0 := k_c1 (List.mem_of_getElem? (i := 150) rfl) rfl
set_option maxRecDepth 20000 in
theorem k_fl_X11_26 : Cond.fieldLink RX11 26 (TX11 4).1 (TX11 4).2.1 (TX11 4).2.2.1 ∈ iv_W0 := k_c2 (List.mem_of_getElem? (i := 179) rfl) rfl
set_option maxRecDepth 20000 in
theorem k_fl_X11_33 : Cond.fieldLink RX11 33 (TX11 6).1 (TX11 6).2.1 (TX11 6).2.2.1 ∈ iv_W0 := k_c2 (List.mem_of_getElem? (i := 181) rfl) rfl
set_option maxRecDepth 20000 in
theorem k_fl_X11_346 : Cond.fieldLink RX11 346 (TX5 10).1 (TX5 10).2.1 (TX5 10).2.2.1 ∈ iv_W0 := k_c1 (List.mem_of_getElem? (i := 212) rfl) rfl
set_option maxRecDepth 20000 in
theorem k_fl_X11_372 : Cond.fieldLink RX11 372 (TX11 2).1 (TX11 2).2.1 (TX11 2).2.2.1 ∈ iv_W0 := k_c2 (List.mem_of_getElem? (i := 177) rfl) rfl
set_option maxRecDepth 20000 in
theorem k_fl_X11_376 : Cond.fieldLink RX11 376 (TX3 0).1 (TX3 0).2.1 (TX3 0).2.2.1 ∈ iv_W0 := k_c1 (List.mem_of_getElem? (i := 85) rfl) rfl
set_option maxRecDepth 20000 in
theorem k_fl_X11_377 : Cond.fieldLink RX11 377 (TX6 2).1 (TX6 2).2.1 (TX6 2).2.2.1 ∈ iv_W0 := k_c2 (List.mem_of_getElem? (i := 26) rfl) rfl
set_option maxRecDepth 20000 in
theorem k_fl_X11_42 : Cond.fieldLink RX11 42 (TX11 7).1 (TX11 7).2.1 (TX11 7).2.2.1 ∈ iv_W0 := k_c2 (List.mem_of_getElem? (i := 182) rfl) rfl
set_option maxRecDepth 20000 in
theorem k_fl_X11_51 : Cond.fieldLink RX11 51 (TX11 8).1 (TX11 8).2.1 (TX11 8).2.2.1 ∈ iv_W0 := k_c2 (List.mem_of_getElem? (i := 183) rfl) rfl
set_option maxRecDepth 20000 in
theorem k_fl_X11_58 : Cond.fieldLink RX11 58 (TX11 9).1 (TX11 9).2.1 (TX11 9).2.2.1 ∈ iv_W0 := k_c2 (List.mem_of_getElem? (i := 184) rfl) rfl
set_option maxRecDepth 20000 in
theorem k_fl_X11_65 : Cond.fieldLink RX11 65 (TX11 10).1 (TX11 10).2.1 (TX11 10).2.2.1 ∈ iv_W0 := k_c2 (List.mem_of_getElem? (i := 185) rfl) rfl
set_option maxRecDepth 20000 in
theorem k_fl_X11_69 : Cond.fieldLink RX11 69 (TX11 11).1 (TX11 11).2.1 (TX11 11).2.2.1 ∈ iv_W0 := k_c2 (List.mem_of_getElem? (i := 186) rfl) rfl
set_option maxRecDepth 20000 in
theorem k_fl_X11_72 : Cond.fieldLink RX11 72 (TX5 7).1 (TX5 7).2.1 (TX5 7).2.2.1 ∈ iv_W0 := k_c1 (List.mem_of_getElem? (i := 198) rfl) rfl
set_option maxRecDepth 20000 in
theorem k_fl_X11_87 : Cond.fieldLink RX11 87 (TX5 2).1 (TX5 2).2.1 (TX5 2).2.2.1 ∈ iv_W0 := k_c1 (List.mem_of_getElem? (i := 181) rfl) rfl
set_option maxRecDepth 20000 in
theorem k_fl_X11_90 : Cond.fieldLink RX11 90 (TX5 1).1 (TX5 1).2.1 (TX5 1).2.2.1 ∈ iv_W0 := k_c1 (List.mem_of_getElem? (i := 178) rfl) rfl
set_option maxRecDepth 20000 in
theorem k_fl_X11_93 : Cond.fieldLink RX11 93 (TX5 0).1 (TX5 0).2.1 (TX5 0).2.2.1 ∈ iv_W0 := k_c1 (List.mem_of_getElem? (i := 173) rfl) rfl
set_option maxRecDepth 20000 in
theorem k_fl_X12_13 : Cond.fieldLink RX12 13 (TX12 1).1 (TX12 1).2.1 (TX12 1).2.2.1 ∈ iv_W0 := k_c6 (List.mem_of_getElem? (i := 10) rfl) rfl
set_option maxRecDepth 20000 in
theorem k_fl_X12_141 : Cond.fieldLink RX12 141 (TX12 11).1 (TX12 11).2.1 (TX12 11).2.2.1 ∈ iv_W0 := k_c6 (List.mem_of_getElem? (i := 20) rfl) rfl
set_option maxRecDepth 20000 in
theorem k_fl_X12_16 : Cond.fieldLink RX12 16 (TX12 2).1 (TX12 2).2.1 (TX12 2).2.2.1 ∈ iv_W0 := k_c6 (List.mem_of_getElem? (i := 11) rfl) rfl
set_option maxRecDepth 20000 in
theorem k_fl_X12_165 : Cond.fieldLink RX12 165 (TX12 17).1 (TX12 17).2.1 (TX12 17).2.2.1 ∈ iv_W0 := k_c6 (List.mem_of_getElem? (i := 26) rfl) rfl
set_option maxRecDepth 20000 in
theorem k_fl_X12_177 : Cond.fieldLink RX12 177 (TX12 19).1 (TX12 19).2.1 (TX12 19).2.2.1 ∈ iv_W0 := k_c6 (List.mem_of_getElem? (i := 28) rfl) rfl
set_option maxRecDepth 20000 in
theorem k_fl_X12_180 : Cond.fieldLink RX12 180 (TX12 20).1 (TX12 20).2.1 (TX12 20).2.2.1 ∈ iv_W0 := k_c6 (List.mem_of_getElem? (i := 29) rfl) rfl
set_option maxRecDepth 20000 in
theorem k_fl_X12_183 : Cond.fieldLink RX12 183 (TX12 21).1 (TX12 21).2.1 (TX12 21).2.2.1 ∈ iv_W0 := k_c6 (List.mem_of_getElem? (i := 30) rfl) rfl
set_option maxRecDepth 20000 in
theorem k_fl_X12_19 : Cond.fieldLink RX12 19 (TX12 5).1 (TX12 5).2.1 (TX12 5).2.2.1 ∈ iv_W0 := k_c6 (List.mem_of_getElem? (i := 14) rfl) rfl
set_option maxRecDepth 20000 in
theorem k_fl_X12_192 : Cond.fieldLink RX12 192 (TX12 13).1 (TX12 13).2.1 (TX12 13).2.2.1 ∈ iv_W0 := k_c6 (List.mem_of_getElem? (i := 22) rfl) rfl
set_option maxRecDepth 20000 in
theorem k_fl_X12_195 : Cond.fieldLink RX12 195 (TX12 23).1 (TX12 23).2.1 (TX12 23).2.2.1 ∈ iv_W0 := k_c6 (List.mem_of_getElem? (i := 32) rfl) rfl
set_option maxRecDepth 20000 in
theorem k_fl_X12_22 : Cond.fieldLink RX12 22 (TX12 6).1 (TX12 6).2.1 (TX12 6).2.2.1 ∈ iv_W0 := k_c6 (List.mem_of_getElem? (i := 15) rfl) rfl
set_option maxRecDepth 20000 in
theorem k_fl_X12_227 : Cond.fieldLink RX12 227 (TX12 12).1 (TX12 12).2.1 (TX12 12).2.2.1 ∈ iv_W0 := k_c6 (List.mem_of_getElem? (i := 21) rfl) rfl
set_option maxRecDepth 20000 in
theorem k_fl_X12_233 : Cond.fieldLink RX12 233 (TX12 25).1 (TX12 25).2.1 (TX12 25).2.2.1 ∈ iv_W0 := k_c6 (List.mem_of_getElem? (i := 34) rfl) rfl
set_option maxRecDepth 20000 in
theorem k_fl_X12_240 : Cond.fieldLink RX12 240 (TX12 14).1 (TX12 14).2.1 (TX12 14).2.2.1 ∈ iv_W0 := k_c6 (List.mem_of_getElem? (i := 23) rfl) rfl
set_option maxRecDepth 20000 in
theorem k_fl_X12_25 : Cond.fieldLink RX12 25 (TX12 7).1 (TX12 7).2.1 (TX12 7).2.2.1 ∈ iv_W0 := k_c6 (List.mem_of_getElem? (i := 16) rfl) rfl
set_option maxRecDepth 20000 in
theorem k_fl_X12_250 : Cond.fieldLink RX12 250 (TX12 22).1 (TX12 22).2.1 (TX12 22).2.2.1 ∈ iv_W0 := k_c6 (List.mem_of_getElem? (i := 31) rfl) rfl
set_option maxRecDepth 20000 in
theorem k_fl_X12_28 : Cond.fieldLink RX12 28 (TX12 8).1 (TX12 8).2.1 (TX12 8).2.2.1 ∈ iv_W0 := k_c6 (List.mem_of_getElem? (i := 17) rfl) rfl
set_option maxRecDepth 20000 in
theorem k_fl_X12_31 : Cond.fieldLink RX12 31 (TX12 9).1 (TX12 9).2.1 (TX12 9).2.2.1 ∈ iv_W0 := k_c6 (List.mem_of_getElem? (i := 18) rfl) rfl
set_option maxRecDepth 20000 in
theorem k_fl_X12_34 : Cond.fieldLink RX12 34 (TX12 10).1 (TX12 10).2.1 (TX12 10).2.2.1 ∈ iv_W0 := k_c6 (List.mem_of_getElem? (i := 19) rfl) rfl
set_option maxRecDepth 20000 in
theorem k_fl_X12_37 : Cond.fieldLink RX12 37 (TX12 24).1 (TX12 24).2.1 (TX12 24).2.2.1 ∈ iv_W0 := k_c6 (List.mem_of_getElem? (i := 33) rfl) rfl
set_option maxRecDepth 20000 in
theorem k_fl_X12_41 : Cond.fieldLink RX12 41 (TX12 26).1 (TX12 26).2.1 (TX12 26).2.2.1 ∈ iv_W0 := k_c6 (List.mem_of_getElem? (i := 35) rfl) rfl
set_option maxRecDepth 20000 in
theorem k_fl_X12_44 : Cond.fieldLink RX12 44 (TX12 27).1 (TX12 27).2.1 (TX12 27).2.2.1 ∈ iv_W0 := k_c6 (List.mem_of_getElem? (i := 36) rfl) rfl
set_option maxRecDepth 20000 in
theorem k_fl_X12_447 : Cond.fieldLink RX12 447 (TX12 31).1 (TX12 31).2.1 (TX12 31).2.2.1 ∈ iv_W0 := k_c6 (List.mem_of_getElem? (i := 40) rfl) rfl
set_option maxRecDepth 20000 in
theorem k_fl_X12_456 : Cond.fieldLink RX12 456 (TX12 4).1 (TX12 4).2.1 (TX12 4).2.2.1 ∈ iv_W0 := k_c6 (List.mem_of_getElem? (i := 13) rfl) rfl
set_option maxRecDepth 20000 in
theorem k_fl_X12_47 : Cond.fieldLink RX12 47 (TX12 28).1 (TX12 28).2.1 (TX12 28).2.2.1 ∈ iv_W0 := k_c6 (List.mem_of_getElem? (i := 37) rfl) rfl
set_option maxRecDepth 20000 in
theorem k_fl_X12_50 : Cond.fieldLink RX12 50 (TX12 29).1 (TX12 29).2.1 (TX12 29).2.2.1 ∈ iv_W0 := k_c6 (List.mem_of_getElem? (i := 38) rfl) rfl
set_option maxRecDepth 20000 in
theorem k_fl_X12_53 : Cond.fieldLink RX12 53 (TX12 30).1 (TX12 30).2.1 (TX12 30).2.2.1 ∈ iv_W0 := k_c6 (List.mem_of_getElem? (i := 39) rfl) rfl
set_option maxRecDepth 20000 in
theorem k_fl_X12_60 : Cond.fieldLink RX12 60 (TX12 3).1 (TX12 3).2.1 (TX12 3).2.2.1 ∈ iv_W0 := k_c6 (List.mem_of_getElem? (i := 12) rfl) rfl
set_option maxRecDepth 20000 in
theorem k_fl_X12_7 : Cond.fieldLink RX12 7 (TX12 0).1 (TX12 0).2.1 (TX12 0).2.2.1 ∈ iv_W0 := k_c6 (List.mem_of_getElem? (i := 9) rfl) rfl
set_option maxRecDepth 20000 in
theorem k_fl_X12_82 : Cond.fieldLink RX12 82 (TX12 15).1 (TX12 15).2.1 (TX12 15).2.2.1 ∈ iv_W0 := k_c6 (List.mem_of_getElem? (i := 24) rfl) rfl
set_option maxRecDepth 20000 in
theorem k_fl_X12_85 : Cond.fieldLink RX12 85 (TX12 16).1 (TX12 16).2.1 (TX12 16).2.2.1 ∈ iv_W0 := k_c6 (List.mem_of_getElem? (i := 25) rfl) rfl
set_option maxRecDepth 20000 in
theorem k_fl_X12_88 : Cond.fieldLink RX12 88 (TX12 18).1 (TX12 18).2.1 (TX12 18).2.2.1 ∈ iv_W0 := k_c6 (List.mem_of_getElem? (i := 27) rfl) rfl
set_option maxRecDepth 20000 in
theorem k_sfl_J0_1053 : Cond.fieldLink RJ0 1053 "jdk/internal/util/Preconditions" "SIOOBE_FORMATTER" "Ljava/util/function/BiFunction;" ∈ iv_W0 := k_c3 (List.mem_of_getElem? (i := 233) rfl) rfl
set_option maxRecDepth 20000 in
theorem k_sfl_J0_15 : Cond.fieldLink RJ0 15 "java/lang/String" "coder" "B" ∈ iv_W0 := k_c8 (List.mem_of_getElem? (i := 194) rfl) rfl
set_option maxRecDepth 20000 in
theorem k_sfl_J0_38 : Cond.fieldLink RJ0 38 "java/lang/String" "COMPACT_STRINGS" "Z" ∈ iv_W0 := k_c3 (List.mem_of_getElem? (i := 217) rfl) rfl
set_option maxRecDepth 20000 in
theorem k_sfl_J0_9 : Cond.fieldLink RJ0 9 "java/lang/String" "value" "[B" ∈ iv_W0 := k_c8 (List.mem_of_getElem? (i := 193) rfl) rfl
set_option maxRecDepth 20000 in
theorem k_sfl_J2_44 : Cond.fieldLink RJ2 44 "java/lang/StringUTF16" "$assertionsDisabled" "Z" ∈ iv_W0 := k_c4 (List.mem_of_getElem? (i := 11) rfl) rfl
set_option maxRecDepth 20000 in
theorem k_sfl_J2_59 : Cond.fieldLink RJ2 59 "java/lang/StringUTF16" "HI_BYTE_SHIFT" "I" ∈ iv_W0 := k_c4 (List.mem_of_getElem? (i := 13) rfl) rfl
set_option maxRecDepth 20000 in
theorem k_sfl_J2_63 : Cond.fieldLink RJ2 63 "java/lang/StringUTF16" "LO_BYTE_SHIFT" "I" ∈ iv_W0 := k_c4 (List.mem_of_getElem? (i := 15) rfl) rfl
set_option maxRecDepth 20000 in
theorem k_im_X0_init : Cond.instanceMethod yX0_init ∈ iv_W0 := k_c2 (List.mem_of_getElem? (i := 130) rfl) rfl
set_option maxRecDepth 20000 in
theorem k_im_X0_bringChild : Cond.instanceMethod yX0_bringChild ∈ iv_W0 := k_c3 (List.mem_of_getElem? (i := 154) rfl) rfl
set_option maxRecDepth 20000 in
theorem k_im_X0_bringChildren : Cond.instanceMethod yX0_bringChildren ∈ iv_W0 := k_c3 (List.mem_of_getElem? (i := 129) rfl) rfl
set_option maxRecDepth 20000 in
theorem k_im_X0_passDay : Cond.instanceMethod yX0_passDay ∈ iv_W0 := k_c3 (List.mem_of_getElem? (i := 60) rfl) rfl
set_option maxRecDepth 20000 in
theorem k_im_X1_init : Cond.instanceMethod yX1_init ∈ iv_W0 := k_c1 (List.mem_of_getElem? (i := 109) rfl) rfl
set_option maxRecDepth 20000 in
theorem k_im_X1_become : Cond.instanceMethod yX1_become ∈ iv_W0 := k_c5 (List.mem_of_getElem? (i := 228) rfl) rfl
set_option maxRecDepth 20000 in
theorem k_im_X1_begin : Cond.instanceMethod yX1_begin ∈ iv_W0 := k_c2 (List.mem_of_getElem? (i := 235) rfl) rfl
set_option maxRecDepth 20000 in
theorem k_im_X2_init : Cond.instanceMethod yX2_init ∈ iv_W0 := k_c2 (List.mem_of_getElem? (i := 117) rfl) rfl
set_option maxRecDepth 20000 in
theorem k_im_X2_calledTo : Cond.instanceMethod yX2_calledTo ∈ iv_W0 := k_c3 (List.mem_of_getElem? (i := 136) rfl) rfl
set_option maxRecDepth 20000 in
theorem k_im_X2_clearHours : Cond.instanceMethod yX2_clearHours ∈ iv_W0 := k_c3 (List.mem_of_getElem? (i := 74) rfl) rfl
set_option maxRecDepth 20000 in
theorem k_im_X2_comingOf : Cond.instanceMethod yX2_comingOf ∈ iv_W0 := k_c3 (List.mem_of_getElem? (i := 69) rfl) rfl
set_option maxRecDepth 20000 in
theorem k_im_X2_doQuarrel : Cond.instanceMethod yX2_doQuarrel ∈ iv_W0 := k_c5 (List.mem_of_getElem? (i := 1) rfl) rfl
set_option maxRecDepth 20000 in
theorem k_im_X2_drowningHours : Cond.instanceMethod yX2_drowningHours ∈ iv_W0 := k_c3 (List.mem_of_getElem? (i := 86) rfl) rfl
set_option maxRecDepth 20000 in
theorem k_im_X2_heardBells : Cond.instanceMethod yX2_heardBells ∈ iv_W0 := k_c4 (List.mem_of_getElem? (i := 194) rfl) rfl
set_option maxRecDepth 20000 in
theorem k_im_X2_learn : Cond.instanceMethod yX2_learn ∈ iv_W0 := k_c3 (List.mem_of_getElem? (i := 99) rfl) rfl
set_option maxRecDepth 20000 in
theorem k_im_X2_loudAt : Cond.instanceMethod yX2_loudAt ∈ iv_W0 := k_c3 (List.mem_of_getElem? (i := 149) rfl) rfl
set_option maxRecDepth 20000 in
theorem k_im_X2_loudFrom : Cond.instanceMethod yX2_loudFrom ∈ iv_W0 := k_c3 (List.mem_of_getElem? (i := 95) rfl) rfl
set_option maxRecDepth 20000 in
theorem k_im_X3_init : Cond.instanceMethod yX3_init ∈ iv_W0 := k_c1 (List.mem_of_getElem? (i := 65) rfl) rfl
set_option maxRecDepth 20000 in
theorem k_im_X3_answer : Cond.instanceMethod yX3_answer ∈ iv_W0 := k_c3 (List.mem_of_getElem? (i := 102) rfl) rfl
set_option maxRecDepth 20000 in
theorem k_im_X3_run : Cond.instanceMethod yX3_run ∈ iv_W0 := k_c3 (List.mem_of_getElem? (i := 107) rfl) rfl
set_option maxRecDepth 20000 in
theorem k_im_X4_init : Cond.instanceMethod yX4_init ∈ iv_W0 := k_c2 (List.mem_of_getElem? (i := 156) rfl) rfl
set_option maxRecDepth 20000 in
theorem k_im_X4_canFollow : Cond.instanceMethod yX4_canFollow ∈ iv_W0 := k_c5 (List.mem_of_getElem? (i := 126) rfl) rfl
set_option maxRecDepth 20000 in
theorem k_im_X4_countPeals : Cond.instanceMethod yX4_countPeals ∈ iv_W0 := k_c5 (List.mem_of_getElem? (i := 113) rfl) rfl
set_option maxRecDepth 20000 in
theorem k_im_X4_firstAfter : Cond.instanceMethod yX4_firstAfter ∈ iv_W0 := k_c5 (List.mem_of_getElem? (i := 134) rfl) rfl
set_option maxRecDepth 20000 in
theorem k_im_X4_gather : Cond.instanceMethod yX4_gather ∈ iv_W0 := k_c5 (List.mem_of_getElem? (i := 118) rfl) rfl
set_option maxRecDepth 20000 in
theorem k_im_X4_hourOf : Cond.instanceMethod yX4_hourOf ∈ iv_W0 := k_c5 (List.mem_of_getElem? (i := 44) rfl) rfl
set_option maxRecDepth 20000 in
theorem k_im_X4_inFirstPeal : Cond.instanceMethod yX4_inFirstPeal ∈ iv_W0 := k_c5 (List.mem_of_getElem? (i := 129) rfl) rfl
set_option maxRecDepth 20000 in
theorem k_im_X4_seatAll : Cond.instanceMethod yX4_seatAll ∈ iv_W0 := k_c5 (List.mem_of_getElem? (i := 31) rfl) rfl
set_option maxRecDepth 20000 in
theorem k_im_X4_waysAfter : Cond.instanceMethod yX4_waysAfter ∈ iv_W0 := k_c5 (List.mem_of_getElem? (i := 122) rfl) rfl
set_option maxRecDepth 20000 in
theorem k_im_X5_init : Cond.instanceMethod yX5_init ∈ iv_W0 := k_c1 (List.mem_of_getElem? (i := 34) rfl) rfl
set_option maxRecDepth 20000 in
theorem k_im_X5_areNear : Cond.instanceMethod yX5_areNear ∈ iv_W0 := k_c3 (List.mem_of_getElem? (i := 78) rfl) rfl
set_option maxRecDepth 20000 in
theorem k_im_X5_areOctaves : Cond.instanceMethod yX5_areOctaves ∈ iv_W0 := k_c3 (List.mem_of_getElem? (i := 145) rfl) rfl
set_option maxRecDepth 20000 in
theorem k_im_X5_bellsWithLineAt : Cond.instanceMethod yX5_bellsWithLineAt ∈ iv_W0 := k_c5 (List.mem_of_getElem? (i := 197) rfl) rfl
set_option maxRecDepth 20000 in
theorem k_im_X5_copyFrom : Cond.instanceMethod yX5_copyFrom ∈ iv_W0 := k_c5 (List.mem_of_getElem? (i := 224) rfl) rfl
set_option maxRecDepth 20000 in
theorem k_im_X5_distance : Cond.instanceMethod yX5_distance ∈ iv_W0 := k_c3 (List.mem_of_getElem? (i := 89) rfl) rfl
set_option maxRecDepth 20000 in
theorem k_im_X5_draw : Cond.instanceMethod yX5_draw ∈ iv_W0 := k_c3 (List.mem_of_getElem? (i := 122) rfl) rfl
set_option maxRecDepth 20000 in
theorem k_im_X5_hasBell : Cond.instanceMethod yX5_hasBell ∈ iv_W0 := k_c3 (List.mem_of_getElem? (i := 7) rfl) rfl
set_option maxRecDepth 20000 in
theorem k_im_X5_howManySound : Cond.instanceMethod yX5_howManySound ∈ iv_W0 := k_c4 (List.mem_of_getElem? (i := 206) rfl) rfl
set_option maxRecDepth 20000 in
theorem k_im_X5_isRung : Cond.instanceMethod yX5_isRung ∈ iv_W0 := k_c4 (List.mem_of_getElem? (i := 228) rfl) rfl
set_option maxRecDepth 20000 in
theorem k_im_X5_isSetOfBells : Cond.instanceMethod yX5_isSetOfBells ∈ iv_W0 := k_c5 (List.mem_of_getElem? (i := 91) rfl) rfl
set_option maxRecDepth 20000 in
theorem k_im_X5_silentFrom : Cond.instanceMethod yX5_silentFrom ∈ iv_W0 := k_c4 (List.mem_of_getElem? (i := 202) rfl) rfl
set_option maxRecDepth 20000 in
theorem k_im_X5_soundsAt : Cond.instanceMethod yX5_soundsAt ∈ iv_W0 := k_c3 (List.mem_of_getElem? (i := 140) rfl) rfl
set_option maxRecDepth 20000 in
theorem k_im_X5_soundsIn : Cond.instanceMethod yX5_soundsIn ∈ iv_W0 := k_c3 (List.mem_of_getElem? (i := 64) rfl) rfl
set_option maxRecDepth 20000 in
theorem k_im_X6_init : Cond.instanceMethod yX6_init ∈ iv_W0 := k_c2 (List.mem_of_getElem? (i := 18) rfl) rfl
set_option maxRecDepth 20000 in
theorem k_im_X6_forget : Cond.instanceMethod yX6_forget ∈ iv_W0 := k_c2 (List.mem_of_getElem? (i := 217) rfl) rfl
set_option maxRecDepth 20000 in
theorem k_im_X6_giveBack : Cond.instanceMethod yX6_giveBack ∈ iv_W0 := k_c5 (List.mem_of_getElem? (i := 214) rfl) rfl
set_option maxRecDepth 20000 in
theorem k_im_X6_keep : Cond.instanceMethod yX6_keep ∈ iv_W0 := k_c3 (List.mem_of_getElem? (i := 19) rfl) rfl
set_option maxRecDepth 20000 in
theorem k_im_X7_init : Cond.instanceMethod yX7_init ∈ iv_W0 := k_c2 (List.mem_of_getElem? (i := 37) rfl) rfl
set_option maxRecDepth 20000 in
theorem k_im_X7_begin : Cond.instanceMethod yX7_begin ∈ iv_W0 := k_c3 (List.mem_of_getElem? (i := 184) rfl) rfl
set_option maxRecDepth 20000 in
theorem k_im_X7_emit : Cond.instanceMethod yX7_emit ∈ iv_W0 := k_c4 (List.mem_of_getElem? (i := 119) rfl) rfl
set_option maxRecDepth 20000 in
theorem k_im_X7_emitWaiting : Cond.instanceMethod yX7_emitWaiting ∈ iv_W0 := k_c4 (List.mem_of_getElem? (i := 126) rfl) rfl
set_option maxRecDepth 20000 in
theorem k_im_X7_forgetFault : Cond.instanceMethod yX7_forgetFault ∈ iv_W0 := k_c3 (List.mem_of_getElem? (i := 175) rfl) rfl
set_option maxRecDepth 20000 in
theorem k_im_X7_readBracket : Cond.instanceMethod yX7_readBracket ∈ iv_W0 := k_c4 (List.mem_of_getElem? (i := 138) rfl) rfl
set_option maxRecDepth 20000 in
theorem k_im_X7_readChoice : Cond.instanceMethod yX7_readChoice ∈ iv_W0 := k_c4 (List.mem_of_getElem? (i := 130) rfl) rfl
set_option maxRecDepth 20000 in
theorem k_im_X7_readClaim : Cond.instanceMethod yX7_readClaim ∈ iv_W0 := k_c4 (List.mem_of_getElem? (i := 134) rfl) rfl
set_option maxRecDepth 20000 in
theorem k_im_X7_readComparison : Cond.instanceMethod yX7_readComparison ∈ iv_W0 := k_c4 (List.mem_of_getElem? (i := 142) rfl) rfl
set_option maxRecDepth 20000 in
theorem k_im_X7_readHourLine : Cond.instanceMethod yX7_readHourLine ∈ iv_W0 := k_c4 (List.mem_of_getElem? (i := 86) rfl) rfl
set_option maxRecDepth 20000 in
theorem k_im_X7_readHours : Cond.instanceMethod yX7_readHours ∈ iv_W0 := k_c3 (List.mem_of_getElem? (i := 179) rfl) rfl
set_option maxRecDepth 20000 in
theorem k_im_X7_readLaw : Cond.instanceMethod yX7_readLaw ∈ iv_W0 := k_c4 (List.mem_of_getElem? (i := 102) rfl) rfl
set_option maxRecDepth 20000 in
theorem k_im_X7_readLawLine : Cond.instanceMethod yX7_readLawLine ∈ iv_W0 := k_c4 (List.mem_of_getElem? (i := 107) rfl) rfl
set_option maxRecDepth 20000 in
theorem k_im_X7_readSum : Cond.instanceMethod yX7_readSum ∈ iv_W0 := k_c4 (List.mem_of_getElem? (i := 111) rfl) rfl
set_option maxRecDepth 20000 in
theorem k_im_X7_readUnit : Cond.instanceMethod yX7_readUnit ∈ iv_W0 := k_c4 (List.mem_of_getElem? (i := 115) rfl) rfl
set_option maxRecDepth 20000 in
theorem k_im_X7_refuse : Cond.instanceMethod yX7_refuse ∈ iv_W0 := k_c4 (List.mem_of_getElem? (i := 90) rfl) rfl
set_option maxRecDepth 20000 in
theorem k_im_X7_step : Cond.instanceMethod yX7_step ∈ iv_W0 := k_c4 (List.mem_of_getElem? (i := 79) rfl) rfl
set_option maxRecDepth 20000 in
theorem k_im_X7_takes : Cond.instanceMethod yX7_takes ∈ iv_W0 := k_c4 (List.mem_of_getElem? (i := 94) rfl) rfl
set_option maxRecDepth 20000 in
theorem k_im_X7_takesNumber : Cond.instanceMethod yX7_takesNumber ∈ iv_W0 := k_c4 (List.mem_of_getElem? (i := 98) rfl) rfl
set_option maxRecDepth 20000 in
theorem k_im_X8_init : Cond.instanceMethod yX8_init ∈ iv_W0 := k_c1 (List.mem_of_getElem? (i := 42) rfl) rfl
set_option maxRecDepth 20000 in
theorem k_im_X8_add : Cond.instanceMethod yX8_add ∈ iv_W0 := k_c3 (List.mem_of_getElem? (i := 33) rfl) rfl
set_option maxRecDepth 20000 in
theorem k_im_X8_at : Cond.instanceMethod yX8_at ∈ iv_W0 := k_c3 (List.mem_of_getElem? (i := 24) rfl) rfl
set_option maxRecDepth 20000 in
theorem k_im_X8_become : Cond.instanceMethod yX8_become ∈ iv_W0 := k_c5 (List.mem_of_getElem? (i := 234) rfl) rfl
set_option maxRecDepth 20000 in
theorem k_im_X8_change : Cond.instanceMethod yX8_change ∈ iv_W0 := k_c3 (List.mem_of_getElem? (i := 41) rfl) rfl
set_option maxRecDepth 20000 in
theorem k_im_X8_cut : Cond.instanceMethod yX8_cut ∈ iv_W0 := k_c5 (List.mem_of_getElem? (i := 176) rfl) rfl
set_option maxRecDepth 20000 in
theorem k_im_X8_has : Cond.instanceMethod yX8_has ∈ iv_W0 := k_c3 (List.mem_of_getElem? (i := 28) rfl) rfl
set_option maxRecDepth 20000 in
theorem k_im_X8_isFull : Cond.instanceMethod yX8_isFull ∈ iv_W0 := k_c3 (List.mem_of_getElem? (i := 37) rfl) rfl
set_option maxRecDepth 20000 in
theorem k_im_X9_init : Cond.instanceMethod yX9_init ∈ iv_W0 := k_c2 (List.mem_of_getElem? (i := 143) rfl) rfl
set_option maxRecDepth 20000 in
theorem k_im_X9_canMelt : Cond.instanceMethod yX9_canMelt ∈ iv_W0 := k_c5 (List.mem_of_getElem? (i := 58) rfl) rfl
set_option maxRecDepth 20000 in
theorem k_im_X9_canRaise : Cond.instanceMethod yX9_canRaise ∈ iv_W0 := k_c5 (List.mem_of_getElem? (i := 95) rfl) rfl
set_option maxRecDepth 20000 in
theorem k_im_X9_doesFit : Cond.instanceMethod yX9_doesFit ∈ iv_W0 := k_c5 (List.mem_of_getElem? (i := 190) rfl) rfl
set_option maxRecDepth 20000 in
theorem k_im_X9_fitting : Cond.instanceMethod yX9_fitting ∈ iv_W0 := k_c5 (List.mem_of_getElem? (i := 185) rfl) rfl
set_option maxRecDepth 20000 in
theorem k_im_X9_hopeOf : Cond.instanceMethod yX9_hopeOf ∈ iv_W0 := k_c5 (List.mem_of_getElem? (i := 69) rfl) rfl
set_option maxRecDepth 20000 in
theorem k_im_X9_isFreeAt : Cond.instanceMethod yX9_isFreeAt ∈ iv_W0 := k_c5 (List.mem_of_getElem? (i := 100) rfl) rfl
set_option maxRecDepth 20000 in
theorem k_im_X9_isLessHarm : Cond.instanceMethod yX9_isLessHarm ∈ iv_W0 := k_c5 (List.mem_of_getElem? (i := 66) rfl) rfl
set_option maxRecDepth 20000 in
theorem k_im_X9_isPitchThere : Cond.instanceMethod yX9_isPitchThere ∈ iv_W0 := k_c5 (List.mem_of_getElem? (i := 84) rfl) rfl
set_option maxRecDepth 20000 in
theorem k_im_X9_isWrong : Cond.instanceMethod yX9_isWrong ∈ iv_W0 := k_c5 (List.mem_of_getElem? (i := 155) rfl) rfl
set_option maxRecDepth 20000 in
theorem k_im_X9_leastHarm : Cond.instanceMethod yX9_leastHarm ∈ iv_W0 := k_c5 (List.mem_of_getElem? (i := 53) rfl) rfl
set_option maxRecDepth 20000 in
theorem k_im_X9_partnerOf : Cond.instanceMethod yX9_partnerOf ∈ iv_W0 := k_c5 (List.mem_of_getElem? (i := 164) rfl) rfl
set_option maxRecDepth 20000 in
theorem k_im_X9_rememberCame : Cond.instanceMethod yX9_rememberCame ∈ iv_W0 := k_c5 (List.mem_of_getElem? (i := 146) rfl) rfl
set_option maxRecDepth 20000 in
theorem k_im_X9_rightThen : Cond.instanceMethod yX9_rightThen ∈ iv_W0 := k_c5 (List.mem_of_getElem? (i := 167) rfl) rfl
set_option maxRecDepth 20000 in
theorem k_im_X9_rowFrom : Cond.instanceMethod yX9_rowFrom ∈ iv_W0 := k_c5 (List.mem_of_getElem? (i := 79) rfl) rfl
set_option maxRecDepth 20000 in
theorem k_im_X9_swapsToRight : Cond.instanceMethod yX9_swapsToRight ∈ iv_W0 := k_c5 (List.mem_of_getElem? (i := 159) rfl) rfl
set_option maxRecDepth 20000 in
theorem k_im_X9_weightOf : Cond.instanceMethod yX9_weightOf ∈ iv_W0 := k_c5 (List.mem_of_getElem? (i := 62) rfl) rfl
set_option maxRecDepth 20000 in
theorem k_im_X9_wrongChildren : Cond.instanceMethod yX9_wrongChildren ∈ iv_W0 := k_c5 (List.mem_of_getElem? (i := 151) rfl) rfl
set_option maxRecDepth 20000 in
theorem k_im_X9_wrongNow : Cond.instanceMethod yX9_wrongNow ∈ iv_W0 := k_c5 (List.mem_of_getElem? (i := 141) rfl) rfl
set_option maxRecDepth 20000 in
theorem k_im_X10_init : Cond.instanceMethod yX10_init ∈ iv_W0 := k_c2 (List.mem_of_getElem? (i := 43) rfl) rfl
set_option maxRecDepth 20000 in
theorem k_im_X10_read : Cond.instanceMethod yX10_read ∈ iv_W0 := k_c3 (List.mem_of_getElem? (i := 187) rfl) rfl
set_option maxRecDepth 20000 in
theorem k_im_X11_init : Cond.instanceMethod yX11_init ∈ iv_W0 := k_c1 (List.mem_of_getElem? (i := 26) rfl) rfl
set_option maxRecDepth 20000 in
theorem k_im_X11_ask : Cond.instanceMethod yX11_ask ∈ iv_W0 := k_c5 (List.mem_of_getElem? (i := 193) rfl) rfl
set_option maxRecDepth 20000 in
theorem k_im_X11_astray : Cond.instanceMethod yX11_astray ∈ iv_W0 := k_c4 (List.mem_of_getElem? (i := 176) rfl) rfl
set_option maxRecDepth 20000 in
theorem k_im_X11_bell : Cond.instanceMethod yX11_bell ∈ iv_W0 := k_c2 (List.mem_of_getElem? (i := 231) rfl) rfl
set_option maxRecDepth 20000 in
theorem k_im_X11_book : Cond.instanceMethod yX11_book ∈ iv_W0 := k_c4 (List.mem_of_getElem? (i := 186) rfl) rfl
set_option maxRecDepth 20000 in
theorem k_im_X11_child : Cond.instanceMethod yX11_child ∈ iv_W0 := k_c4 (List.mem_of_getElem? (i := 182) rfl) rfl
set_option maxRecDepth 20000 in
theorem k_im_X11_chorus : Cond.instanceMethod yX11_chorus ∈ iv_W0 := k_c4 (List.mem_of_getElem? (i := 219) rfl) rfl
set_option maxRecDepth 20000 in
theorem k_im_X11_days : Cond.instanceMethod yX11_days ∈ iv_W0 := k_c3 (List.mem_of_getElem? (i := 56) rfl) rfl
set_option maxRecDepth 20000 in
theorem k_im_X11_eldest : Cond.instanceMethod yX11_eldest ∈ iv_W0 := k_c5 (List.mem_of_getElem? (i := 201) rfl) rfl
set_option maxRecDepth 20000 in
theorem k_im_X11_end : Cond.instanceMethod yX11_end ∈ iv_W0 := k_c3 (List.mem_of_getElem? (i := 167) rfl) rfl
set_option maxRecDepth 20000 in
theorem k_im_X11_far : Cond.instanceMethod yX11_far ∈ iv_W0 := k_c2 (List.mem_of_getElem? (i := 221) rfl) rfl
set_option maxRecDepth 20000 in
theorem k_im_X11_fault : Cond.instanceMethod yX11_fault ∈ iv_W0 := k_c4 (List.mem_of_getElem? (i := 157) rfl) rfl
set_option maxRecDepth 20000 in
theorem k_im_X11_feed : Cond.instanceMethod yX11_feed ∈ iv_W0 := k_c3 (List.mem_of_getElem? (i := 159) rfl) rfl
set_option maxRecDepth 20000 in
theorem k_im_X11_fits : Cond.instanceMethod yX11_fits ∈ iv_W0 := k_c5 (List.mem_of_getElem? (i := 181) rfl) rfl
set_option maxRecDepth 20000 in
theorem k_im_X11_free : Cond.instanceMethod yX11_free ∈ iv_W0 := k_c4 (List.mem_of_getElem? (i := 224) rfl) rfl
set_option maxRecDepth 20000 in
theorem k_im_X11_heard : Cond.instanceMethod yX11_heard ∈ iv_W0 := k_c4 (List.mem_of_getElem? (i := 190) rfl) rfl
set_option maxRecDepth 20000 in
theorem k_im_X11_hopes : Cond.instanceMethod yX11_hopes ∈ iv_W0 := k_c5 (List.mem_of_getElem? (i := 23) rfl) rfl
set_option maxRecDepth 20000 in
theorem k_im_X11_image : Cond.instanceMethod yX11_image ∈ iv_W0 := k_c5 (List.mem_of_getElem? (i := 220) rfl) rfl
set_option maxRecDepth 20000 in
theorem k_im_X11_isSetForAll : Cond.instanceMethod yX11_isSetForAll ∈ iv_W0 := k_c3 (List.mem_of_getElem? (i := 12) rfl) rfl
set_option maxRecDepth 20000 in
theorem k_im_X11_isSetForBell : Cond.instanceMethod yX11_isSetForBell ∈ iv_W0 := k_c3 (List.mem_of_getElem? (i := 4) rfl) rfl
set_option maxRecDepth 20000 in
theorem k_im_X11_late : Cond.instanceMethod yX11_late ∈ iv_W0 := k_c5 (List.mem_of_getElem? (i := 14) rfl) rfl
set_option maxRecDepth 20000 in
theorem k_im_X11_likeliest : Cond.instanceMethod yX11_likeliest ∈ iv_W0 := k_c5 (List.mem_of_getElem? (i := 5) rfl) rfl
set_option maxRecDepth 20000 in
theorem k_im_X11_look : Cond.instanceMethod yX11_look ∈ iv_W0 := k_c6 (List.mem_of_getElem? (i := 0) rfl) rfl
set_option maxRecDepth 20000 in
theorem k_im_X11_loud : Cond.instanceMethod yX11_loud ∈ iv_W0 := k_c4 (List.mem_of_getElem? (i := 168) rfl) rfl
set_option maxRecDepth 20000 in
theorem k_im_X11_louder : Cond.instanceMethod yX11_louder ∈ iv_W0 := k_c5 (List.mem_of_getElem? (i := 205) rfl) rfl
set_option maxRecDepth 20000 in
theorem k_im_X11_melt : Cond.instanceMethod yX11_melt ∈ iv_W0 := k_c3 (List.mem_of_getElem? (i := 15) rfl) rfl
set_option maxRecDepth 20000 in
theorem k_im_X11_melts : Cond.instanceMethod yX11_melts ∈ iv_W0 := k_c5 (List.mem_of_getElem? (i := 49) rfl) rfl
set_option maxRecDepth 20000 in
theorem k_im_X11_muffle : Cond.instanceMethod yX11_muffle ∈ iv_W0 := k_c3 (List.mem_of_getElem? (i := 45) rfl) rfl
set_option maxRecDepth 20000 in
theorem k_im_X11_noneYet : Cond.instanceMethod yX11_noneYet ∈ iv_W0 := k_c5 (List.mem_of_getElem? (i := 19) rfl) rfl
set_option maxRecDepth 20000 in
theorem k_im_X11_octaves : Cond.instanceMethod yX11_octaves ∈ iv_W0 := k_c5 (List.mem_of_getElem? (i := 104) rfl) rfl
set_option maxRecDepth 20000 in
theorem k_im_X11_of : Cond.instanceMethod yX11_of ∈ iv_W0 := k_c4 (List.mem_of_getElem? (i := 161) rfl) rfl
set_option maxRecDepth 20000 in
theorem k_im_X11_peals : Cond.instanceMethod yX11_peals ∈ iv_W0 := k_c5 (List.mem_of_getElem? (i := 109) rfl) rfl
set_option maxRecDepth 20000 in
theorem k_im_X11_placed : Cond.instanceMethod yX11_placed ∈ iv_W0 := k_c4 (List.mem_of_getElem? (i := 233) rfl) rfl
set_option maxRecDepth 20000 in
theorem k_im_X11_putNumber : Cond.instanceMethod yX11_putNumber ∈ iv_W0 := k_c3 (List.mem_of_getElem? (i := 164) rfl) rfl
set_option maxRecDepth 20000 in
theorem k_im_X11_quarrels : Cond.instanceMethod yX11_quarrels ∈ iv_W0 := k_c4 (List.mem_of_getElem? (i := 237) rfl) rfl
set_option maxRecDepth 20000 in
theorem k_im_X11_raised : Cond.instanceMethod yX11_raised ∈ iv_W0 := k_c5 (List.mem_of_getElem? (i := 87) rfl) rfl
set_option maxRecDepth 20000 in
theorem k_im_X11_right : Cond.instanceMethod yX11_right ∈ iv_W0 := k_c5 (List.mem_of_getElem? (i := 137) rfl) rfl
set_option maxRecDepth 20000 in
theorem k_im_X11_ropes : Cond.instanceMethod yX11_ropes ∈ iv_W0 := k_c4 (List.mem_of_getElem? (i := 214) rfl) rfl
set_option maxRecDepth 20000 in
theorem k_im_X11_rows : Cond.instanceMethod yX11_rows ∈ iv_W0 := k_c5 (List.mem_of_getElem? (i := 27) rfl) rfl
set_option maxRecDepth 20000 in
theorem k_im_X11_set : Cond.instanceMethod yX11_set ∈ iv_W0 := k_c2 (List.mem_of_getElem? (i := 239) rfl) rfl
set_option maxRecDepth 20000 in
theorem k_im_X11_siblings : Cond.instanceMethod yX11_siblings ∈ iv_W0 := k_c5 (List.mem_of_getElem? (i := 75) rfl) rfl
set_option maxRecDepth 20000 in
theorem k_im_X11_silence : Cond.instanceMethod yX11_silence ∈ iv_W0 := k_c4 (List.mem_of_getElem? (i := 198) rfl) rfl
set_option maxRecDepth 20000 in
theorem k_im_X11_state : Cond.instanceMethod yX11_state ∈ iv_W0 := k_c2 (List.mem_of_getElem? (i := 213) rfl) rfl
set_option maxRecDepth 20000 in
theorem k_im_X11_stop : Cond.instanceMethod yX11_stop ∈ iv_W0 := k_c5 (List.mem_of_getElem? (i := 9) rfl) rfl
set_option maxRecDepth 20000 in
theorem k_im_X11_swap : Cond.instanceMethod yX11_swap ∈ iv_W0 := k_c3 (List.mem_of_getElem? (i := 49) rfl) rfl
set_option maxRecDepth 20000 in
theorem k_im_X11_takeHours : Cond.instanceMethod yX11_takeHours ∈ iv_W0 := k_c4 (List.mem_of_getElem? (i := 146) rfl) rfl
set_option maxRecDepth 20000 in
theorem k_im_X11_takeLaw : Cond.instanceMethod yX11_takeLaw ∈ iv_W0 := k_c4 (List.mem_of_getElem? (i := 151) rfl) rfl
set_option maxRecDepth 20000 in
theorem k_im_X11_text : Cond.instanceMethod yX11_text ∈ iv_W0 := k_c3 (List.mem_of_getElem? (i := 171) rfl) rfl
set_option maxRecDepth 20000 in
theorem k_im_X11_turn : Cond.instanceMethod yX11_turn ∈ iv_W0 := k_c5 (List.mem_of_getElem? (i := 172) rfl) rfl
set_option maxRecDepth 20000 in
theorem k_im_X11_undo : Cond.instanceMethod yX11_undo ∈ iv_W0 := k_c5 (List.mem_of_getElem? (i := 210) rfl) rfl
set_option maxRecDepth 20000 in
theorem k_im_X12_init : Cond.instanceMethod yX12_init ∈ iv_W0 := k_c6 (List.mem_of_getElem? (i := 6) rfl) rfl
set_option maxRecDepth 20000 in
theorem k_im_X12_aDay : Cond.instanceMethod yX12_aDay ∈ iv_W0 := k_c7 (List.mem_of_getElem? (i := 99) rfl) rfl
set_option maxRecDepth 20000 in
theorem k_im_X12_aLine : Cond.instanceMethod yX12_aLine ∈ iv_W0 := k_c7 (List.mem_of_getElem? (i := 7) rfl) rfl
set_option maxRecDepth 20000 in
theorem k_im_X12_aRing : Cond.instanceMethod yX12_aRing ∈ iv_W0 := k_c6 (List.mem_of_getElem? (i := 223) rfl) rfl
set_option maxRecDepth 20000 in
theorem k_im_X12_any : Cond.instanceMethod yX12_any ∈ iv_W0 := k_c7 (List.mem_of_getElem? (i := 27) rfl) rfl
set_option maxRecDepth 20000 in
theorem k_im_X12_ask : Cond.instanceMethod yX12_ask ∈ iv_W0 := k_c8 (List.mem_of_getElem? (i := 147) rfl) rfl
set_option maxRecDepth 20000 in
theorem k_im_X12_asked : Cond.instanceMethod yX12_asked ∈ iv_W0 := k_c6 (List.mem_of_getElem? (i := 198) rfl) rfl
set_option maxRecDepth 20000 in
theorem k_im_X12_astray : Cond.instanceMethod yX12_astray ∈ iv_W0 := k_c7 (List.mem_of_getElem? (i := 217) rfl) rfl
set_option maxRecDepth 20000 in
theorem k_im_X12_astrayOf : Cond.instanceMethod yX12_astrayOf ∈ iv_W0 := k_c7 (List.mem_of_getElem? (i := 195) rfl) rfl
set_option maxRecDepth 20000 in
theorem k_im_X12_bad : Cond.instanceMethod yX12_bad ∈ iv_W0 := k_c6 (List.mem_of_getElem? (i := 227) rfl) rfl
set_option maxRecDepth 20000 in
theorem k_im_X12_bell : Cond.instanceMethod yX12_bell ∈ iv_W0 := k_c6 (List.mem_of_getElem? (i := 125) rfl) rfl
set_option maxRecDepth 20000 in
theorem k_im_X12_bells : Cond.instanceMethod yX12_bells ∈ iv_W0 := k_c6 (List.mem_of_getElem? (i := 130) rfl) rfl
set_option maxRecDepth 20000 in
theorem k_im_X12_book : Cond.instanceMethod yX12_book ∈ iv_W0 := k_c7 (List.mem_of_getElem? (i := 225) rfl) rfl
set_option maxRecDepth 20000 in
theorem k_im_X12_canBeRaised : Cond.instanceMethod yX12_canBeRaised ∈ iv_W0 := k_c8 (List.mem_of_getElem? (i := 64) rfl) rfl
set_option maxRecDepth 20000 in
theorem k_im_X12_canFollow : Cond.instanceMethod yX12_canFollow ∈ iv_W0 := k_c8 (List.mem_of_getElem? (i := 183) rfl) rfl
set_option maxRecDepth 20000 in
theorem k_im_X12_canRing : Cond.instanceMethod yX12_canRing ∈ iv_W0 := k_c8 (List.mem_of_getElem? (i := 76) rfl) rfl
set_option maxRecDepth 20000 in
theorem k_im_X12_canSet : Cond.instanceMethod yX12_canSet ∈ iv_W0 := k_c6 (List.mem_of_getElem? (i := 138) rfl) rfl
set_option maxRecDepth 20000 in
theorem k_im_X12_canTakeFrom : Cond.instanceMethod yX12_canTakeFrom ∈ iv_W0 := k_c8 (List.mem_of_getElem? (i := 128) rfl) rfl
set_option maxRecDepth 20000 in
theorem k_im_X12_child : Cond.instanceMethod yX12_child ∈ iv_W0 := k_c7 (List.mem_of_getElem? (i := 221) rfl) rfl
set_option maxRecDepth 20000 in
theorem k_im_X12_chorus : Cond.instanceMethod yX12_chorus ∈ iv_W0 := k_c8 (List.mem_of_getElem? (i := 13) rfl) rfl
set_option maxRecDepth 20000 in
theorem k_im_X12_clearOf : Cond.instanceMethod yX12_clearOf ∈ iv_W0 := k_c7 (List.mem_of_getElem? (i := 131) rfl) rfl
set_option maxRecDepth 20000 in
theorem k_im_X12_comeOf : Cond.instanceMethod yX12_comeOf ∈ iv_W0 := k_c7 (List.mem_of_getElem? (i := 123) rfl) rfl
set_option maxRecDepth 20000 in
theorem k_im_X12_comesOne : Cond.instanceMethod yX12_comesOne ∈ iv_W0 := k_c7 (List.mem_of_getElem? (i := 203) rfl) rfl
set_option maxRecDepth 20000 in
theorem k_im_X12_comesTo : Cond.instanceMethod yX12_comesTo ∈ iv_W0 := k_c7 (List.mem_of_getElem? (i := 166) rfl) rfl
set_option maxRecDepth 20000 in
theorem k_im_X12_comingSays : Cond.instanceMethod yX12_comingSays ∈ iv_W0 := k_c7 (List.mem_of_getElem? (i := 127) rfl) rfl
set_option maxRecDepth 20000 in
theorem k_im_X12_comingWord : Cond.instanceMethod yX12_comingWord ∈ iv_W0 := k_c6 (List.mem_of_getElem? (i := 207) rfl) rfl
set_option maxRecDepth 20000 in
theorem k_im_X12_days : Cond.instanceMethod yX12_days ∈ iv_W0 := k_c7 (List.mem_of_getElem? (i := 94) rfl) rfl
set_option maxRecDepth 20000 in
theorem k_im_X12_doQuarrel : Cond.instanceMethod yX12_doQuarrel ∈ iv_W0 := k_c8 (List.mem_of_getElem? (i := 47) rfl) rfl
set_option maxRecDepth 20000 in
theorem k_im_X12_draw : Cond.instanceMethod yX12_draw ∈ iv_W0 := k_c7 (List.mem_of_getElem? (i := 186) rfl) rfl
set_option maxRecDepth 20000 in
theorem k_im_X12_drowns : Cond.instanceMethod yX12_drowns ∈ iv_W0 := k_c7 (List.mem_of_getElem? (i := 139) rfl) rfl
set_option maxRecDepth 20000 in
theorem k_im_X12_eldest : Cond.instanceMethod yX12_eldest ∈ iv_W0 := k_c8 (List.mem_of_getElem? (i := 22) rfl) rfl
set_option maxRecDepth 20000 in
theorem k_im_X12_end : Cond.instanceMethod yX12_end ∈ iv_W0 := k_c6 (List.mem_of_getElem? (i := 149) rfl) rfl
set_option maxRecDepth 20000 in
theorem k_im_X12_every : Cond.instanceMethod yX12_every ∈ iv_W0 := k_c7 (List.mem_of_getElem? (i := 31) rfl) rfl
set_option maxRecDepth 20000 in
theorem k_im_X12_far : Cond.instanceMethod yX12_far ∈ iv_W0 := k_c6 (List.mem_of_getElem? (i := 115) rfl) rfl
set_option maxRecDepth 20000 in
theorem k_im_X12_farOf : Cond.instanceMethod yX12_farOf ∈ iv_W0 := k_c7 (List.mem_of_getElem? (i := 154) rfl) rfl
set_option maxRecDepth 20000 in
theorem k_im_X12_fault : Cond.instanceMethod yX12_fault ∈ iv_W0 := k_c7 (List.mem_of_getElem? (i := 50) rfl) rfl
set_option maxRecDepth 20000 in
theorem k_im_X12_feed : Cond.instanceMethod yX12_feed ∈ iv_W0 := k_c6 (List.mem_of_getElem? (i := 145) rfl) rfl
set_option maxRecDepth 20000 in
theorem k_im_X12_fits : Cond.instanceMethod yX12_fits ∈ iv_W0 := k_c8 (List.mem_of_getElem? (i := 135) rfl) rfl
set_option maxRecDepth 20000 in
theorem k_im_X12_fitsOf : Cond.instanceMethod yX12_fitsOf ∈ iv_W0 := k_c8 (List.mem_of_getElem? (i := 140) rfl) rfl
set_option maxRecDepth 20000 in
theorem k_im_X12_forgets : Cond.instanceMethod yX12_forgets ∈ iv_W0 := k_c6 (List.mem_of_getElem? (i := 112) rfl) rfl
set_option maxRecDepth 20000 in
theorem k_im_X12_free : Cond.instanceMethod yX12_free ∈ iv_W0 := k_c8 (List.mem_of_getElem? (i := 26) rfl) rfl
set_option maxRecDepth 20000 in
theorem k_im_X12_greaterPart : Cond.instanceMethod yX12_greaterPart ∈ iv_W0 := k_c8 (List.mem_of_getElem? (i := 152) rfl) rfl
set_option maxRecDepth 20000 in
theorem k_im_X12_hasLine : Cond.instanceMethod yX12_hasLine ∈ iv_W0 := k_c7 (List.mem_of_getElem? (i := 111) rfl) rfl
set_option maxRecDepth 20000 in
theorem k_im_X12_heard : Cond.instanceMethod yX12_heard ∈ iv_W0 := k_c7 (List.mem_of_getElem? (i := 229) rfl) rfl
set_option maxRecDepth 20000 in
theorem k_im_X12_hopes : Cond.instanceMethod yX12_hopes ∈ iv_W0 := k_c8 (List.mem_of_getElem? (i := 159) rfl) rfl
set_option maxRecDepth 20000 in
theorem k_im_X12_image : Cond.instanceMethod yX12_image ∈ iv_W0 := k_c8 (List.mem_of_getElem? (i := 186) rfl) rfl
set_option maxRecDepth 20000 in
theorem k_im_X12_is : Cond.instanceMethod yX12_is ∈ iv_W0 := k_c6 (List.mem_of_getElem? (i := 178) rfl) rfl
set_option maxRecDepth 20000 in
theorem k_im_X12_isBell : Cond.instanceMethod yX12_isBell ∈ iv_W0 := k_c6 (List.mem_of_getElem? (i := 142) rfl) rfl
set_option maxRecDepth 20000 in
theorem k_im_X12_isBetter : Cond.instanceMethod yX12_isBetter ∈ iv_W0 := k_c8 (List.mem_of_getElem? (i := 92) rfl) rfl
set_option maxRecDepth 20000 in
theorem k_im_X12_isChild : Cond.instanceMethod yX12_isChild ∈ iv_W0 := k_c7 (List.mem_of_getElem? (i := 83) rfl) rfl
set_option maxRecDepth 20000 in
theorem k_im_X12_isClear : Cond.instanceMethod yX12_isClear ∈ iv_W0 := k_c7 (List.mem_of_getElem? (i := 135) rfl) rfl
set_option maxRecDepth 20000 in
theorem k_im_X12_isDrowned : Cond.instanceMethod yX12_isDrowned ∈ iv_W0 := k_c8 (List.mem_of_getElem? (i := 35) rfl) rfl
set_option maxRecDepth 20000 in
theorem k_im_X12_isLineAt : Cond.instanceMethod yX12_isLineAt ∈ iv_W0 := k_c7 (List.mem_of_getElem? (i := 115) rfl) rfl
set_option maxRecDepth 20000 in
theorem k_im_X12_isOctave : Cond.instanceMethod yX12_isOctave ∈ iv_W0 := k_c7 (List.mem_of_getElem? (i := 199) rfl) rfl
set_option maxRecDepth 20000 in
theorem k_im_X12_isOfTurns : Cond.instanceMethod yX12_isOfTurns ∈ iv_W0 := k_c8 (List.mem_of_getElem? (i := 144) rfl) rfl
set_option maxRecDepth 20000 in
theorem k_im_X12_isPitched : Cond.instanceMethod yX12_isPitched ∈ iv_W0 := k_c8 (List.mem_of_getElem? (i := 100) rfl) rfl
set_option maxRecDepth 20000 in
theorem k_im_X12_isRung : Cond.instanceMethod yX12_isRung ∈ iv_W0 := k_c7 (List.mem_of_getElem? (i := 119) rfl) rfl
set_option maxRecDepth 20000 in
theorem k_im_X12_isRungBell : Cond.instanceMethod yX12_isRungBell ∈ iv_W0 := k_c8 (List.mem_of_getElem? (i := 31) rfl) rfl
set_option maxRecDepth 20000 in
theorem k_im_X12_isSilent : Cond.instanceMethod yX12_isSilent ∈ iv_W0 := k_c8 (List.mem_of_getElem? (i := 2) rfl) rfl
set_option maxRecDepth 20000 in
theorem k_im_X12_isSo : Cond.instanceMethod yX12_isSo ∈ iv_W0 := k_c7 (List.mem_of_getElem? (i := 162) rfl) rfl
set_option maxRecDepth 20000 in
theorem k_im_X12_isWrong : Cond.instanceMethod yX12_isWrong ∈ iv_W0 := k_c8 (List.mem_of_getElem? (i := 112) rfl) rfl
set_option maxRecDepth 20000 in
theorem k_im_X12_keeps : Cond.instanceMethod yX12_keeps ∈ iv_W0 := k_c7 (List.mem_of_getElem? (i := 67) rfl) rfl
set_option maxRecDepth 20000 in
theorem k_im_X12_late : Cond.instanceMethod yX12_late ∈ iv_W0 := k_c8 (List.mem_of_getElem? (i := 163) rfl) rfl
set_option maxRecDepth 20000 in
theorem k_im_X12_lay : Cond.instanceMethod yX12_lay ∈ iv_W0 := k_c7 (List.mem_of_getElem? (i := 23) rfl) rfl
set_option maxRecDepth 20000 in
theorem k_im_X12_lays : Cond.instanceMethod yX12_lays ∈ iv_W0 := k_c7 (List.mem_of_getElem? (i := 150) rfl) rfl
set_option maxRecDepth 20000 in
theorem k_im_X12_laysPeals : Cond.instanceMethod yX12_laysPeals ∈ iv_W0 := k_c8 (List.mem_of_getElem? (i := 179) rfl) rfl
set_option maxRecDepth 20000 in
theorem k_im_X12_likeliest : Cond.instanceMethod yX12_likeliest ∈ iv_W0 := k_c8 (List.mem_of_getElem? (i := 50) rfl) rfl
set_option maxRecDepth 20000 in
theorem k_im_X12_look : Cond.instanceMethod yX12_look ∈ iv_W0 := k_c8 (List.mem_of_getElem? (i := 190) rfl) rfl
set_option maxRecDepth 20000 in
theorem k_im_X12_loud : Cond.instanceMethod yX12_loud ∈ iv_W0 := k_c7 (List.mem_of_getElem? (i := 210) rfl) rfl
set_option maxRecDepth 20000 in
theorem k_im_X12_loudOf : Cond.instanceMethod yX12_loudOf ∈ iv_W0 := k_c7 (List.mem_of_getElem? (i := 146) rfl) rfl
set_option maxRecDepth 20000 in
theorem k_im_X12_louder : Cond.instanceMethod yX12_louder ∈ iv_W0 := k_c8 (List.mem_of_getElem? (i := 167) rfl) rfl
set_option maxRecDepth 20000 in
theorem k_im_X12_melt : Cond.instanceMethod yX12_melt ∈ iv_W0 := k_c7 (List.mem_of_getElem? (i := 58) rfl) rfl
set_option maxRecDepth 20000 in
theorem k_im_X12_melts : Cond.instanceMethod yX12_melts ∈ iv_W0 := k_c8 (List.mem_of_getElem? (i := 79) rfl) rfl
set_option maxRecDepth 20000 in
theorem k_im_X12_muffle : Cond.instanceMethod yX12_muffle ∈ iv_W0 := k_c7 (List.mem_of_getElem? (i := 74) rfl) rfl
set_option maxRecDepth 20000 in
theorem k_im_X12_need : Cond.instanceMethod yX12_need ∈ iv_W0 := k_c6 (List.mem_of_getElem? (i := 235) rfl) rfl
set_option maxRecDepth 20000 in
theorem k_im_X12_next0 : Cond.instanceMethod yX12_next0 ∈ iv_W0 := k_c6 (List.mem_of_getElem? (i := 158) rfl) rfl
set_option maxRecDepth 20000 in
theorem k_im_X12_nextSwap : Cond.instanceMethod yX12_nextSwap ∈ iv_W0 := k_c8 (List.mem_of_getElem? (i := 120) rfl) rfl
set_option maxRecDepth 20000 in
theorem k_im_X12_noneYet : Cond.instanceMethod yX12_noneYet ∈ iv_W0 := k_c8 (List.mem_of_getElem? (i := 54) rfl) rfl
set_option maxRecDepth 20000 in
theorem k_im_X12_notes : Cond.instanceMethod yX12_notes ∈ iv_W0 := k_c7 (List.mem_of_getElem? (i := 71) rfl) rfl
set_option maxRecDepth 20000 in
theorem k_im_X12_number : Cond.instanceMethod yX12_number ∈ iv_W0 := k_c6 (List.mem_of_getElem? (i := 239) rfl) rfl
set_option maxRecDepth 20000 in
theorem k_im_X12_octaves : Cond.instanceMethod yX12_octaves ∈ iv_W0 := k_c8 (List.mem_of_getElem? (i := 18) rfl) rfl
set_option maxRecDepth 20000 in
theorem k_im_X12_of : Cond.instanceMethod yX12_of ∈ iv_W0 := k_c7 (List.mem_of_getElem? (i := 206) rfl) rfl
set_option maxRecDepth 20000 in
theorem k_im_X12_ofBell : Cond.instanceMethod yX12_ofBell ∈ iv_W0 := k_c7 (List.mem_of_getElem? (i := 63) rfl) rfl
set_option maxRecDepth 20000 in
theorem k_im_X12_ofChild : Cond.instanceMethod yX12_ofChild ∈ iv_W0 := k_c7 (List.mem_of_getElem? (i := 91) rfl) rfl
set_option maxRecDepth 20000 in
theorem k_im_X12_oneTest : Cond.instanceMethod yX12_oneTest ∈ iv_W0 := k_c7 (List.mem_of_getElem? (i := 35) rfl) rfl
set_option maxRecDepth 20000 in
theorem k_im_X12_opens : Cond.instanceMethod yX12_opens ∈ iv_W0 := k_c7 (List.mem_of_getElem? (i := 39) rfl) rfl
set_option maxRecDepth 20000 in
theorem k_im_X12_peals : Cond.instanceMethod yX12_peals ∈ iv_W0 := k_c8 (List.mem_of_getElem? (i := 174) rfl) rfl
set_option maxRecDepth 20000 in
theorem k_im_X12_placed : Cond.instanceMethod yX12_placed ∈ iv_W0 := k_c8 (List.mem_of_getElem? (i := 38) rfl) rfl
set_option maxRecDepth 20000 in
theorem k_im_X12_product : Cond.instanceMethod yX12_product ∈ iv_W0 := k_c7 (List.mem_of_getElem? (i := 15) rfl) rfl
set_option maxRecDepth 20000 in
theorem k_im_X12_putsLaw : Cond.instanceMethod yX12_putsLaw ∈ iv_W0 := k_c7 (List.mem_of_getElem? (i := 47) rfl) rfl
set_option maxRecDepth 20000 in
theorem k_im_X12_putsRings : Cond.instanceMethod yX12_putsRings ∈ iv_W0 := k_c7 (List.mem_of_getElem? (i := 43) rfl) rfl
set_option maxRecDepth 20000 in
theorem k_im_X12_quarrels : Cond.instanceMethod yX12_quarrels ∈ iv_W0 := k_c8 (List.mem_of_getElem? (i := 42) rfl) rfl
set_option maxRecDepth 20000 in
theorem k_im_X12_raised : Cond.instanceMethod yX12_raised ∈ iv_W0 := k_c8 (List.mem_of_getElem? (i := 59) rfl) rfl
set_option maxRecDepth 20000 in
theorem k_im_X12_readsLaw : Cond.instanceMethod yX12_readsLaw ∈ iv_W0 := k_c7 (List.mem_of_getElem? (i := 3) rfl) rfl
set_option maxRecDepth 20000 in
theorem k_im_X12_readsRings : Cond.instanceMethod yX12_readsRings ∈ iv_W0 := k_c6 (List.mem_of_getElem? (i := 219) rfl) rfl
set_option maxRecDepth 20000 in
theorem k_im_X12_right : Cond.instanceMethod yX12_right ∈ iv_W0 := k_c8 (List.mem_of_getElem? (i := 103) rfl) rfl
set_option maxRecDepth 20000 in
theorem k_im_X12_ringWord : Cond.instanceMethod yX12_ringWord ∈ iv_W0 := k_c6 (List.mem_of_getElem? (i := 173) rfl) rfl
set_option maxRecDepth 20000 in
theorem k_im_X12_ropes : Cond.instanceMethod yX12_ropes ∈ iv_W0 := k_c8 (List.mem_of_getElem? (i := 5) rfl) rfl
set_option maxRecDepth 20000 in
theorem k_im_X12_rows : Cond.instanceMethod yX12_rows ∈ iv_W0 := k_c8 (List.mem_of_getElem? (i := 67) rfl) rfl
set_option maxRecDepth 20000 in
theorem k_im_X12_rowsFrom : Cond.instanceMethod yX12_rowsFrom ∈ iv_W0 := k_c8 (List.mem_of_getElem? (i := 72) rfl) rfl
set_option maxRecDepth 20000 in
theorem k_im_X12_says : Cond.instanceMethod yX12_says ∈ iv_W0 := k_c7 (List.mem_of_getElem? (i := 158) rfl) rfl
set_option maxRecDepth 20000 in
theorem k_im_X12_see : Cond.instanceMethod yX12_see ∈ iv_W0 := k_c6 (List.mem_of_getElem? (i := 162) rfl) rfl
set_option maxRecDepth 20000 in
theorem k_im_X12_set : Cond.instanceMethod yX12_set ∈ iv_W0 := k_c6 (List.mem_of_getElem? (i := 133) rfl) rfl
set_option maxRecDepth 20000 in
theorem k_im_X12_setsRight : Cond.instanceMethod yX12_setsRight ∈ iv_W0 := k_c8 (List.mem_of_getElem? (i := 116) rfl) rfl
set_option maxRecDepth 20000 in
theorem k_im_X12_siblings : Cond.instanceMethod yX12_siblings ∈ iv_W0 := k_c8 (List.mem_of_getElem? (i := 95) rfl) rfl
set_option maxRecDepth 20000 in
theorem k_im_X12_silence : Cond.instanceMethod yX12_silence ∈ iv_W0 := k_c7 (List.mem_of_getElem? (i := 233) rfl) rfl
set_option maxRecDepth 20000 in
theorem k_im_X12_silentFrom : Cond.instanceMethod yX12_silentFrom ∈ iv_W0 := k_c7 (List.mem_of_getElem? (i := 238) rfl) rfl
set_option maxRecDepth 20000 in
theorem k_im_X12_slackOf : Cond.instanceMethod yX12_slackOf ∈ iv_W0 := k_c7 (List.mem_of_getElem? (i := 182) rfl) rfl
set_option maxRecDepth 20000 in
theorem k_im_X12_soundWord : Cond.instanceMethod yX12_soundWord ∈ iv_W0 := k_c6 (List.mem_of_getElem? (i := 190) rfl) rfl
set_option maxRecDepth 20000 in
theorem k_im_X12_soundingIn : Cond.instanceMethod yX12_soundingIn ∈ iv_W0 := k_c8 (List.mem_of_getElem? (i := 10) rfl) rfl
set_option maxRecDepth 20000 in
theorem k_im_X12_soundingOf : Cond.instanceMethod yX12_soundingOf ∈ iv_W0 := k_c7 (List.mem_of_getElem? (i := 103) rfl) rfl
set_option maxRecDepth 20000 in
theorem k_im_X12_sounds : Cond.instanceMethod yX12_sounds ∈ iv_W0 := k_c7 (List.mem_of_getElem? (i := 107) rfl) rfl
set_option maxRecDepth 20000 in
theorem k_im_X12_state : Cond.instanceMethod yX12_state ∈ iv_W0 := k_c6 (List.mem_of_getElem? (i := 107) rfl) rfl
set_option maxRecDepth 20000 in
theorem k_im_X12_stop : Cond.instanceMethod yX12_stop ∈ iv_W0 := k_c8 (List.mem_of_getElem? (i := 155) rfl) rfl
set_option maxRecDepth 20000 in
theorem k_im_X12_sumOf : Cond.instanceMethod yX12_sumOf ∈ iv_W0 := k_c8 (List.mem_of_getElem? (i := 88) rfl) rfl
set_option maxRecDepth 20000 in
theorem k_im_X12_sumUp : Cond.instanceMethod yX12_sumUp ∈ iv_W0 := k_c7 (List.mem_of_getElem? (i := 11) rfl) rfl
set_option maxRecDepth 20000 in
theorem k_im_X12_swap : Cond.instanceMethod yX12_swap ∈ iv_W0 := k_c7 (List.mem_of_getElem? (i := 78) rfl) rfl
set_option maxRecDepth 20000 in
theorem k_im_X12_swaps : Cond.instanceMethod yX12_swaps ∈ iv_W0 := k_c7 (List.mem_of_getElem? (i := 87) rfl) rfl
set_option maxRecDepth 20000 in
theorem k_im_X12_swapsWith : Cond.instanceMethod yX12_swapsWith ∈ iv_W0 := k_c8 (List.mem_of_getElem? (i := 124) rfl) rfl
set_option maxRecDepth 20000 in
theorem k_im_X12_text : Cond.instanceMethod yX12_text ∈ iv_W0 := k_c6 (List.mem_of_getElem? (i := 153) rfl) rfl
set_option maxRecDepth 20000 in
theorem k_im_X12_told : Cond.instanceMethod yX12_told ∈ iv_W0 := k_c6 (List.mem_of_getElem? (i := 231) rfl) rfl
set_option maxRecDepth 20000 in
theorem k_im_X12_turn : Cond.instanceMethod yX12_turn ∈ iv_W0 := k_c8 (List.mem_of_getElem? (i := 131) rfl) rfl
set_option maxRecDepth 20000 in
theorem k_im_X12_undo : Cond.instanceMethod yX12_undo ∈ iv_W0 := k_c7 (List.mem_of_getElem? (i := 54) rfl) rfl
set_option maxRecDepth 20000 in
theorem k_im_X12_unit : Cond.instanceMethod yX12_unit ∈ iv_W0 := k_c7 (List.mem_of_getElem? (i := 19) rfl) rfl
set_option maxRecDepth 20000 in
theorem k_im_X12_unmelted : Cond.instanceMethod yX12_unmelted ∈ iv_W0 := k_c8 (List.mem_of_getElem? (i := 84) rfl) rfl
set_option maxRecDepth 20000 in
theorem k_im_X12_word : Cond.instanceMethod yX12_word ∈ iv_W0 := k_c6 (List.mem_of_getElem? (i := 169) rfl) rfl
set_option maxRecDepth 20000 in
theorem k_im_X12_wrongs : Cond.instanceMethod yX12_wrongs ∈ iv_W0 := k_c8 (List.mem_of_getElem? (i := 108) rfl) rfl
set_option maxRecDepth 20000 in
theorem k_im_J0_charAt_5068e : Cond.instanceMethod yJ0_charAt_5068e ∈ iv_W0 := k_c3 (List.mem_of_getElem? (i := 220) rfl) rfl
set_option maxRecDepth 20000 in
theorem k_im_J0_coder_7d493 : Cond.instanceMethod yJ0_coder_7d493 ∈ iv_W0 := k_c3 (List.mem_of_getElem? (i := 214) rfl) rfl
set_option maxRecDepth 20000 in
theorem k_im_J0_indexOf_0f7a4 : Cond.instanceMethod yJ0_indexOf_0f7a4 ∈ iv_W0 := k_c4 (List.mem_of_getElem? (i := 19) rfl) rfl
set_option maxRecDepth 20000 in
theorem k_im_J0_indexOf_7cf53 : Cond.instanceMethod yJ0_indexOf_7cf53 ∈ iv_W0 := k_c4 (List.mem_of_getElem? (i := 23) rfl) rfl
set_option maxRecDepth 20000 in
theorem k_im_J0_isLatin1_aae02 : Cond.instanceMethod yJ0_isLatin1_aae02 ∈ iv_W0 := k_c3 (List.mem_of_getElem? (i := 224) rfl) rfl
set_option maxRecDepth 20000 in
theorem k_im_J0_length_8abf5 : Cond.instanceMethod yJ0_length_8abf5 ∈ iv_W0 := k_c3 (List.mem_of_getElem? (i := 210) rfl) rfl
set_option maxRecDepth 20000 in
theorem k_ml_X0_104 : Cond.methodLink RX0 104 yX8_add ∈ iv_W0 := k_c3 (List.mem_of_getElem? (i := 157) rfl) rfl
set_option maxRecDepth 20000 in
theorem k_ml_X0_25 : Cond.methodLink RX0 25 yX5_soundsIn ∈ iv_W0 := k_c3 (List.mem_of_getElem? (i := 63) rfl) rfl
set_option maxRecDepth 20000 in
theorem k_ml_X0_29 : Cond.methodLink RX0 29 yX2_comingOf ∈ iv_W0 := k_c3 (List.mem_of_getElem? (i := 68) rfl) rfl
set_option maxRecDepth 20000 in
theorem k_ml_X0_44 : Cond.methodLink RX0 44 yJ9_min_7cf53 ∈ iv_W0 := k_c3 (List.mem_of_getElem? (i := 119) rfl) rfl
set_option maxRecDepth 20000 in
theorem k_ml_X0_52 : Cond.methodLink RX0 52 yJ9_max_7cf53 ∈ iv_W0 := k_c3 (List.mem_of_getElem? (i := 120) rfl) rfl
set_option maxRecDepth 20000 in
theorem k_ml_X0_55 : Cond.methodLink RX0 55 yX5_draw ∈ iv_W0 := k_c3 (List.mem_of_getElem? (i := 121) rfl) rfl
set_option maxRecDepth 20000 in
theorem k_ml_X0_58 : Cond.methodLink RX0 58 yX0_bringChildren ∈ iv_W0 := k_c3 (List.mem_of_getElem? (i := 127) rfl) rfl
set_option maxRecDepth 20000 in
theorem k_ml_X0_74 : Cond.methodLink RX0 74 yX2_clearHours ∈ iv_W0 := k_c3 (List.mem_of_getElem? (i := 131) rfl) rfl
set_option maxRecDepth 20000 in
theorem k_ml_X0_78 : Cond.methodLink RX0 78 yX0_firstHour ∈ iv_W0 := k_c3 (List.mem_of_getElem? (i := 132) rfl) rfl
set_option maxRecDepth 20000 in
theorem k_ml_X0_81 : Cond.methodLink RX0 81 yX2_calledTo ∈ iv_W0 := k_c3 (List.mem_of_getElem? (i := 135) rfl) rfl
set_option maxRecDepth 20000 in
theorem k_ml_X0_84 : Cond.methodLink RX0 84 yX0_bringChild ∈ iv_W0 := k_c3 (List.mem_of_getElem? (i := 152) rfl) rfl
set_option maxRecDepth 20000 in
theorem k_ml_X0_98 : Cond.methodLink RX0 98 yX8_isFull ∈ iv_W0 := k_c3 (List.mem_of_getElem? (i := 156) rfl) rfl
set_option maxRecDepth 20000 in
theorem k_ml_X1_36 : Cond.methodLink RX1 36 yX1_begin ∈ iv_W0 := k_c5 (List.mem_of_getElem? (i := 231) rfl) rfl
set_option maxRecDepth 20000 in
theorem k_ml_X2_100 : Cond.methodLink RX2 100 yX5_soundsAt ∈ iv_W0 := k_c3 (List.mem_of_getElem? (i := 139) rfl) rfl
set_option maxRecDepth 20000 in
theorem k_ml_X2_103 : Cond.methodLink RX2 103 yX2_loudAt ∈ iv_W0 := k_c3 (List.mem_of_getElem? (i := 148) rfl) rfl
set_option maxRecDepth 20000 in
theorem k_ml_X2_106 : Cond.methodLink RX2 106 yX5_areOctaves ∈ iv_W0 := k_c3 (List.mem_of_getElem? (i := 144) rfl) rfl
set_option maxRecDepth 20000 in
theorem k_ml_X2_109 : Cond.methodLink RX2 109 yX2_clearHours ∈ iv_W0 := k_c3 (List.mem_of_getElem? (i := 73) rfl) rfl
set_option maxRecDepth 20000 in
theorem k_ml_X2_112 : Cond.methodLink RX2 112 yJ6_bitCount_0f7a4 ∈ iv_W0 := k_c3 (List.mem_of_getElem? (i := 113) rfl) rfl
set_option maxRecDepth 20000 in
theorem k_ml_X2_52 : Cond.methodLink RX2 52 yX2_learn ∈ iv_W0 := k_c3 (List.mem_of_getElem? (i := 97) rfl) rfl
set_option maxRecDepth 20000 in
theorem k_ml_X2_60 : Cond.methodLink RX2 60 yX3_answer ∈ iv_W0 := k_c3 (List.mem_of_getElem? (i := 101) rfl) rfl
set_option maxRecDepth 20000 in
theorem k_ml_X2_66 : Cond.methodLink RX2 66 yJ9_min_7cf53 ∈ iv_W0 := k_c3 (List.mem_of_getElem? (i := 109) rfl) rfl
set_option maxRecDepth 20000 in
theorem k_ml_X2_72 : Cond.methodLink RX2 72 yJ9_max_7cf53 ∈ iv_W0 := k_c3 (List.mem_of_getElem? (i := 110) rfl) rfl
set_option maxRecDepth 20000 in
theorem k_ml_X2_78 : Cond.methodLink RX2 78 yX5_distance ∈ iv_W0 := k_c3 (List.mem_of_getElem? (i := 88) rfl) rfl
set_option maxRecDepth 20000 in
theorem k_ml_X2_81 : Cond.methodLink RX2 81 yX2_loudFrom ∈ iv_W0 := k_c3 (List.mem_of_getElem? (i := 93) rfl) rfl
set_option maxRecDepth 20000 in
theorem k_ml_X2_88 : Cond.methodLink RX2 88 yX5_areNear ∈ iv_W0 := k_c3 (List.mem_of_getElem? (i := 77) rfl) rfl
set_option maxRecDepth 20000 in
theorem k_ml_X2_92 : Cond.methodLink RX2 92 yX5_soundsIn ∈ iv_W0 := k_c3 (List.mem_of_getElem? (i := 72) rfl) rfl
set_option maxRecDepth 20000 in
theorem k_ml_X2_96 : Cond.methodLink RX2 96 yX2_drowningHours ∈ iv_W0 := k_c3 (List.mem_of_getElem? (i := 84) rfl) rfl
set_option maxRecDepth 20000 in
theorem k_ml_X3_19 : Cond.methodLink RX3 19 yJ7_copyOf_59c91 ∈ iv_W0 := k_c1 (List.mem_of_getElem? (i := 68) rfl) rfl
set_option maxRecDepth 20000 in
theorem k_ml_X3_40 : Cond.methodLink RX3 40 yX3_init ∈ iv_W0 := k_c1 (List.mem_of_getElem? (i := 64) rfl) rfl
set_option maxRecDepth 20000 in
theorem k_ml_X3_43 : Cond.methodLink RX3 43 yX3_run ∈ iv_W0 := k_c3 (List.mem_of_getElem? (i := 105) rfl) rfl
set_option maxRecDepth 20000 in
theorem k_ml_X4_25 : Cond.methodLink RX4 25 yX4_seatFrom ∈ iv_W0 := k_c5 (List.mem_of_getElem? (i := 34) rfl) rfl
set_option maxRecDepth 20000 in
theorem k_ml_X4_39 : Cond.methodLink RX4 39 yX5_isRung ∈ iv_W0 := k_c5 (List.mem_of_getElem? (i := 37) rfl) rfl
set_option maxRecDepth 20000 in
theorem k_ml_X4_43 : Cond.methodLink RX4 43 yX4_canSit ∈ iv_W0 := k_c5 (List.mem_of_getElem? (i := 38) rfl) rfl
set_option maxRecDepth 20000 in
theorem k_ml_X4_47 : Cond.methodLink RX4 47 yJ9_max_7cf53 ∈ iv_W0 := k_c5 (List.mem_of_getElem? (i := 42) rfl) rfl
set_option maxRecDepth 20000 in
theorem k_ml_X4_53 : Cond.methodLink RX4 53 yX5_areNear ∈ iv_W0 := k_c5 (List.mem_of_getElem? (i := 41) rfl) rfl
set_option maxRecDepth 20000 in
theorem k_ml_X4_57 : Cond.methodLink RX4 57 yX4_gather ∈ iv_W0 := k_c5 (List.mem_of_getElem? (i := 116) rfl) rfl
set_option maxRecDepth 20000 in
theorem k_ml_X4_64 : Cond.methodLink RX4 64 yX4_waysAfter ∈ iv_W0 := k_c5 (List.mem_of_getElem? (i := 120) rfl) rfl
set_option maxRecDepth 20000 in
theorem k_ml_X4_67 : Cond.methodLink RX4 67 yX4_canFollow ∈ iv_W0 := k_c5 (List.mem_of_getElem? (i := 124) rfl) rfl
set_option maxRecDepth 20000 in
theorem k_ml_X4_70 : Cond.methodLink RX4 70 yX4_firstAfter ∈ iv_W0 := k_c5 (List.mem_of_getElem? (i := 132) rfl) rfl
set_option maxRecDepth 20000 in
theorem k_ml_X5_103 : Cond.methodLink RX5 103 yX5_howManySound ∈ iv_W0 := k_c4 (List.mem_of_getElem? (i := 205) rfl) rfl
set_option maxRecDepth 20000 in
theorem k_ml_X5_112 : Cond.methodLink RX5 112 yJ9_abs_0f7a4 ∈ iv_W0 := k_c3 (List.mem_of_getElem? (i := 81) rfl) rfl
set_option maxRecDepth 20000 in
theorem k_ml_X5_27 : Cond.methodLink RX5 27 yX8_init ∈ iv_W0 := k_c1 (List.mem_of_getElem? (i := 41) rfl) rfl
set_option maxRecDepth 20000 in
theorem k_ml_X5_43 : Cond.methodLink RX5 43 yX3_withoutLines ∈ iv_W0 := k_c1 (List.mem_of_getElem? (i := 59) rfl) rfl
set_option maxRecDepth 20000 in
theorem k_ml_X5_57 : Cond.methodLink RX5 57 yX1_become ∈ iv_W0 := k_c5 (List.mem_of_getElem? (i := 227) rfl) rfl
set_option maxRecDepth 20000 in
theorem k_ml_X5_82 : Cond.methodLink RX5 82 yX8_become ∈ iv_W0 := k_c5 (List.mem_of_getElem? (i := 233) rfl) rfl
set_option maxRecDepth 20000 in
theorem k_ml_X5_88 : Cond.methodLink RX5 88 yX5_hasBell ∈ iv_W0 := k_c3 (List.mem_of_getElem? (i := 67) rfl) rfl
set_option maxRecDepth 20000 in
theorem k_ml_X5_95 : Cond.methodLink RX5 95 yX5_soundsIn ∈ iv_W0 := k_c3 (List.mem_of_getElem? (i := 143) rfl) rfl
set_option maxRecDepth 20000 in
theorem k_ml_X5_99 : Cond.methodLink RX5 99 yX5_soundsAt ∈ iv_W0 := k_c4 (List.mem_of_getElem? (i := 209) rfl) rfl
set_option maxRecDepth 20000 in
theorem k_ml_X6_23 : Cond.methodLink RX6 23 yJ9_min_7cf53 ∈ iv_W0 := k_c3 (List.mem_of_getElem? (i := 22) rfl) rfl
set_option maxRecDepth 20000 in
theorem k_ml_X6_53 : Cond.methodLink RX6 53 yX8_at ∈ iv_W0 := k_c3 (List.mem_of_getElem? (i := 23) rfl) rfl
set_option maxRecDepth 20000 in
theorem k_ml_X6_73 : Cond.methodLink RX6 73 yX8_cut ∈ iv_W0 := k_c5 (List.mem_of_getElem? (i := 217) rfl) rfl
set_option maxRecDepth 20000 in
theorem k_ml_X6_77 : Cond.methodLink RX6 77 yX8_change ∈ iv_W0 := k_c5 (List.mem_of_getElem? (i := 218) rfl) rfl
set_option maxRecDepth 20000 in
theorem k_ml_X7_105 : Cond.methodLink RX7 105 yX7_takes ∈ iv_W0 := k_c4 (List.mem_of_getElem? (i := 92) rfl) rfl
set_option maxRecDepth 20000 in
theorem k_ml_X7_108 : Cond.methodLink RX7 108 yX7_takesNumber ∈ iv_W0 := k_c4 (List.mem_of_getElem? (i := 96) rfl) rfl
set_option maxRecDepth 20000 in
theorem k_ml_X7_112 : Cond.methodLink RX7 112 yX7_readSum ∈ iv_W0 := k_c4 (List.mem_of_getElem? (i := 109) rfl) rfl
set_option maxRecDepth 20000 in
theorem k_ml_X7_115 : Cond.methodLink RX7 115 yX7_readChoice ∈ iv_W0 := k_c4 (List.mem_of_getElem? (i := 128) rfl) rfl
set_option maxRecDepth 20000 in
theorem k_ml_X7_118 : Cond.methodLink RX7 118 yX7_readClaim ∈ iv_W0 := k_c4 (List.mem_of_getElem? (i := 132) rfl) rfl
set_option maxRecDepth 20000 in
theorem k_ml_X7_121 : Cond.methodLink RX7 121 yX7_emitWaiting ∈ iv_W0 := k_c4 (List.mem_of_getElem? (i := 124) rfl) rfl
set_option maxRecDepth 20000 in
theorem k_ml_X7_125 : Cond.methodLink RX7 125 yX7_emit ∈ iv_W0 := k_c4 (List.mem_of_getElem? (i := 117) rfl) rfl
set_option maxRecDepth 20000 in
theorem k_ml_X7_129 : Cond.methodLink RX7 129 yX7_readBracket ∈ iv_W0 := k_c4 (List.mem_of_getElem? (i := 136) rfl) rfl
set_option maxRecDepth 20000 in
theorem k_ml_X7_132 : Cond.methodLink RX7 132 yX7_readComparison ∈ iv_W0 := k_c4 (List.mem_of_getElem? (i := 140) rfl) rfl
set_option maxRecDepth 20000 in
theorem k_ml_X7_135 : Cond.methodLink RX7 135 yX7_readUnit ∈ iv_W0 := k_c4 (List.mem_of_getElem? (i := 113) rfl) rfl
set_option maxRecDepth 20000 in
theorem k_ml_X7_138 : Cond.methodLink RX7 138 yX7_isSignOfSums ∈ iv_W0 := k_c4 (List.mem_of_getElem? (i := 121) rfl) rfl
set_option maxRecDepth 20000 in
theorem k_ml_X7_44 : Cond.methodLink RX7 44 yX7_begin ∈ iv_W0 := k_c3 (List.mem_of_getElem? (i := 182) rfl) rfl
set_option maxRecDepth 20000 in
theorem k_ml_X7_48 : Cond.methodLink RX7 48 yJ7_fill_53178 ∈ iv_W0 := k_c4 (List.mem_of_getElem? (i := 81) rfl) rfl
set_option maxRecDepth 20000 in
theorem k_ml_X7_56 : Cond.methodLink RX7 56 yX7_readHourLine ∈ iv_W0 := k_c4 (List.mem_of_getElem? (i := 84) rfl) rfl
set_option maxRecDepth 20000 in
theorem k_ml_X7_64 : Cond.methodLink RX7 64 yX7_readLawLine ∈ iv_W0 := k_c4 (List.mem_of_getElem? (i := 105) rfl) rfl
set_option maxRecDepth 20000 in
theorem k_ml_X7_68 : Cond.methodLink RX7 68 yX10_read ∈ iv_W0 := k_c3 (List.mem_of_getElem? (i := 186) rfl) rfl
set_option maxRecDepth 20000 in
theorem k_ml_X7_71 : Cond.methodLink RX7 71 yX7_forgetFault ∈ iv_W0 := k_c4 (List.mem_of_getElem? (i := 76) rfl) rfl
set_option maxRecDepth 20000 in
theorem k_ml_X7_83 : Cond.methodLink RX7 83 yX7_step ∈ iv_W0 := k_c4 (List.mem_of_getElem? (i := 77) rfl) rfl
set_option maxRecDepth 20000 in
theorem k_ml_X7_98 : Cond.methodLink RX7 98 yX7_refuse ∈ iv_W0 := k_c4 (List.mem_of_getElem? (i := 88) rfl) rfl
set_option maxRecDepth 20000 in
theorem k_ml_X8_22 : Cond.methodLink RX8 22 yX8_has ∈ iv_W0 := k_c3 (List.mem_of_getElem? (i := 27) rfl) rfl
set_option maxRecDepth 20000 in
theorem k_ml_X8_30 : Cond.methodLink RX8 30 yX8_isFull ∈ iv_W0 := k_c3 (List.mem_of_getElem? (i := 36) rfl) rfl
set_option maxRecDepth 20000 in
theorem k_ml_X8_34 : Cond.methodLink RX8 34 yX8_change ∈ iv_W0 := k_c3 (List.mem_of_getElem? (i := 40) rfl) rfl
set_option maxRecDepth 20000 in
theorem k_ml_X8_38 : Cond.methodLink RX8 38 yJ9_min_7cf53 ∈ iv_W0 := k_c5 (List.mem_of_getElem? (i := 237) rfl) rfl
set_option maxRecDepth 20000 in
theorem k_ml_X9_102 : Cond.methodLink RX9 102 yX9_wrongChildren ∈ iv_W0 := k_c5 (List.mem_of_getElem? (i := 149) rfl) rfl
set_option maxRecDepth 20000 in
theorem k_ml_X9_106 : Cond.methodLink RX9 106 yX9_swapsToRight ∈ iv_W0 := k_c5 (List.mem_of_getElem? (i := 170) rfl) rfl
set_option maxRecDepth 20000 in
theorem k_ml_X9_112 : Cond.methodLink RX9 112 yX9_isWrong ∈ iv_W0 := k_c5 (List.mem_of_getElem? (i := 153) rfl) rfl
set_option maxRecDepth 20000 in
theorem k_ml_X9_115 : Cond.methodLink RX9 115 yX9_partnerOf ∈ iv_W0 := k_c5 (List.mem_of_getElem? (i := 162) rfl) rfl
set_option maxRecDepth 20000 in
theorem k_ml_X9_25 : Cond.methodLink RX9 25 yX9_canMelt ∈ iv_W0 := k_c5 (List.mem_of_getElem? (i := 56) rfl) rfl
set_option maxRecDepth 20000 in
theorem k_ml_X9_29 : Cond.methodLink RX9 29 yX9_weightOf ∈ iv_W0 := k_c5 (List.mem_of_getElem? (i := 60) rfl) rfl
set_option maxRecDepth 20000 in
theorem k_ml_X9_33 : Cond.methodLink RX9 33 yX9_isLessHarm ∈ iv_W0 := k_c5 (List.mem_of_getElem? (i := 64) rfl) rfl
set_option maxRecDepth 20000 in
theorem k_ml_X9_37 : Cond.methodLink RX9 37 yX9_hopeOf ∈ iv_W0 := k_c5 (List.mem_of_getElem? (i := 68) rfl) rfl
set_option maxRecDepth 20000 in
theorem k_ml_X9_40 : Cond.methodLink RX9 40 yJ6_bitCount_0f7a4 ∈ iv_W0 := k_c5 (List.mem_of_getElem? (i := 72) rfl) rfl
set_option maxRecDepth 20000 in
theorem k_ml_X9_60 : Cond.methodLink RX9 60 yX9_isPitchThere ∈ iv_W0 := k_c5 (List.mem_of_getElem? (i := 82) rfl) rfl
set_option maxRecDepth 20000 in
theorem k_ml_X9_66 : Cond.methodLink RX9 66 yX9_isFreeAt ∈ iv_W0 := k_c5 (List.mem_of_getElem? (i := 98) rfl) rfl
set_option maxRecDepth 20000 in
theorem k_ml_X9_69 : Cond.methodLink RX9 69 yJ9_abs_0f7a4 ∈ iv_W0 := k_c5 (List.mem_of_getElem? (i := 102) rfl) rfl
set_option maxRecDepth 20000 in
theorem k_ml_X9_77 : Cond.methodLink RX9 77 yX9_doesFit ∈ iv_W0 := k_c5 (List.mem_of_getElem? (i := 188) rfl) rfl
set_option maxRecDepth 20000 in
theorem k_ml_X9_89 : Cond.methodLink RX9 89 yX8_at ∈ iv_W0 := k_c5 (List.mem_of_getElem? (i := 148) rfl) rfl
set_option maxRecDepth 20000 in
theorem k_ml_X9_99 : Cond.methodLink RX9 99 yX9_rememberCame ∈ iv_W0 := k_c5 (List.mem_of_getElem? (i := 144) rfl) rfl
set_option maxRecDepth 20000 in
theorem k_ml_X10_21 : Cond.methodLink RX10 21 yX10_goesOn ∈ iv_W0 := k_c3 (List.mem_of_getElem? (i := 190) rfl) rfl
set_option maxRecDepth 20000 in
theorem k_ml_X10_25 : Cond.methodLink RX10 25 yX10_behindToken ∈ iv_W0 := k_c3 (List.mem_of_getElem? (i := 199) rfl) rfl
set_option maxRecDepth 20000 in
theorem k_ml_X10_29 : Cond.methodLink RX10 29 yX10_kindOf ∈ iv_W0 := k_c3 (List.mem_of_getElem? (i := 202) rfl) rfl
set_option maxRecDepth 20000 in
theorem k_ml_X10_32 : Cond.methodLink RX10 32 yX10_numberOf ∈ iv_W0 := k_c4 (List.mem_of_getElem? (i := 73) rfl) rfl
set_option maxRecDepth 20000 in
theorem k_ml_X10_35 : Cond.methodLink RX10 35 yX10_isLetter ∈ iv_W0 := k_c3 (List.mem_of_getElem? (i := 193) rfl) rfl
set_option maxRecDepth 20000 in
theorem k_ml_X10_39 : Cond.methodLink RX10 39 yX10_isDigit ∈ iv_W0 := k_c3 (List.mem_of_getElem? (i := 196) rfl) rfl
set_option maxRecDepth 20000 in
theorem k_ml_X10_42 : Cond.methodLink RX10 42 yX10_wordOf ∈ iv_W0 := k_c3 (List.mem_of_getElem? (i := 205) rfl) rfl
set_option maxRecDepth 20000 in
theorem k_ml_X10_47 : Cond.methodLink RX10 47 yJ0_indexOf_0f7a4 ∈ iv_W0 := k_c4 (List.mem_of_getElem? (i := 18) rfl) rfl
set_option maxRecDepth 20000 in
theorem k_ml_X10_55 : Cond.methodLink RX10 55 yJ0_length_8abf5 ∈ iv_W0 := k_c3 (List.mem_of_getElem? (i := 209) rfl) rfl
set_option maxRecDepth 20000 in
theorem k_ml_X10_59 : Cond.methodLink RX10 59 yJ0_charAt_5068e ∈ iv_W0 := k_c3 (List.mem_of_getElem? (i := 219) rfl) rfl
set_option maxRecDepth 20000 in
theorem k_ml_X11_103 : Cond.methodLink RX11 103 yX11_isSetForBell ∈ iv_W0 := k_c3 (List.mem_of_getElem? (i := 2) rfl) rfl
set_option maxRecDepth 20000 in
theorem k_ml_X11_106 : Cond.methodLink RX11 106 yX11_isSetForAll ∈ iv_W0 := k_c3 (List.mem_of_getElem? (i := 10) rfl) rfl
set_option maxRecDepth 20000 in
theorem k_ml_X11_11 : Cond.methodLink RX11 11 yX5_init ∈ iv_W0 := k_c1 (List.mem_of_getElem? (i := 33) rfl) rfl
set_option maxRecDepth 20000 in
theorem k_ml_X11_119 : Cond.methodLink RX11 119 yX5_hasBell ∈ iv_W0 := k_c3 (List.mem_of_getElem? (i := 6) rfl) rfl
set_option maxRecDepth 20000 in
theorem k_ml_X11_134 : Cond.methodLink RX11 134 yX6_keep ∈ iv_W0 := k_c3 (List.mem_of_getElem? (i := 18) rfl) rfl
set_option maxRecDepth 20000 in
theorem k_ml_X11_144 : Cond.methodLink RX11 144 yX8_add ∈ iv_W0 := k_c3 (List.mem_of_getElem? (i := 32) rfl) rfl
set_option maxRecDepth 20000 in
theorem k_ml_X11_155 : Cond.methodLink RX11 155 yX8_has ∈ iv_W0 := k_c3 (List.mem_of_getElem? (i := 52) rfl) rfl
set_option maxRecDepth 20000 in
theorem k_ml_X11_158 : Cond.methodLink RX11 158 yX8_at ∈ iv_W0 := k_c3 (List.mem_of_getElem? (i := 53) rfl) rfl
set_option maxRecDepth 20000 in
theorem k_ml_X11_162 : Cond.methodLink RX11 162 yX8_change ∈ iv_W0 := k_c3 (List.mem_of_getElem? (i := 54) rfl) rfl
set_option maxRecDepth 20000 in
theorem k_ml_X11_169 : Cond.methodLink RX11 169 yX0_passDay ∈ iv_W0 := k_c3 (List.mem_of_getElem? (i := 59) rfl) rfl
set_option maxRecDepth 20000 in
theorem k_ml_X11_175 : Cond.methodLink RX11 175 yX11_putNumber ∈ iv_W0 := k_c3 (List.mem_of_getElem? (i := 162) rfl) rfl
set_option maxRecDepth 20000 in
theorem k_ml_X11_179 : Cond.methodLink RX11 179 yX7_forgetFault ∈ iv_W0 := k_c3 (List.mem_of_getElem? (i := 174) rfl) rfl
set_option maxRecDepth 20000 in
theorem k_ml_X11_182 : Cond.methodLink RX11 182 yX7_readHours ∈ iv_W0 := k_c3 (List.mem_of_getElem? (i := 178) rfl) rfl
set_option maxRecDepth 20000 in
theorem k_ml_X11_186 : Cond.methodLink RX11 186 yX7_readLaw ∈ iv_W0 := k_c4 (List.mem_of_getElem? (i := 101) rfl) rfl
set_option maxRecDepth 20000 in
theorem k_ml_X11_190 : Cond.methodLink RX11 190 yX11_takeHours ∈ iv_W0 := k_c4 (List.mem_of_getElem? (i := 144) rfl) rfl
set_option maxRecDepth 20000 in
theorem k_ml_X11_193 : Cond.methodLink RX11 193 yX11_takeLaw ∈ iv_W0 := k_c4 (List.mem_of_getElem? (i := 149) rfl) rfl
set_option maxRecDepth 20000 in
theorem k_ml_X11_228 : Cond.methodLink RX11 228 yX3_init ∈ iv_W0 := k_c4 (List.mem_of_getElem? (i := 154) rfl) rfl
set_option maxRecDepth 20000 in
theorem k_ml_X11_253 : Cond.methodLink RX11 253 yX5_soundsIn ∈ iv_W0 := k_c4 (List.mem_of_getElem? (i := 164) rfl) rfl
set_option maxRecDepth 20000 in
theorem k_ml_X11_257 : Cond.methodLink RX11 257 yX2_clearHours ∈ iv_W0 := k_c4 (List.mem_of_getElem? (i := 165) rfl) rfl
set_option maxRecDepth 20000 in
theorem k_ml_X11_261 : Cond.methodLink RX11 261 yX2_comingOf ∈ iv_W0 := k_c4 (List.mem_of_getElem? (i := 166) rfl) rfl
set_option maxRecDepth 20000 in
theorem k_ml_X11_264 : Cond.methodLink RX11 264 yX11_isHour ∈ iv_W0 := k_c4 (List.mem_of_getElem? (i := 171) rfl) rfl
set_option maxRecDepth 20000 in
theorem k_ml_X11_267 : Cond.methodLink RX11 267 yX2_loudAt ∈ iv_W0 := k_c4 (List.mem_of_getElem? (i := 174) rfl) rfl
set_option maxRecDepth 20000 in
theorem k_ml_X11_270 : Cond.methodLink RX11 270 yX5_soundsAt ∈ iv_W0 := k_c4 (List.mem_of_getElem? (i := 179) rfl) rfl
set_option maxRecDepth 20000 in
theorem k_ml_X11_273 : Cond.methodLink RX11 273 yX2_calledTo ∈ iv_W0 := k_c4 (List.mem_of_getElem? (i := 180) rfl) rfl
set_option maxRecDepth 20000 in
theorem k_ml_X11_276 : Cond.methodLink RX11 276 yX2_heardBells ∈ iv_W0 := k_c4 (List.mem_of_getElem? (i := 193) rfl) rfl
set_option maxRecDepth 20000 in
theorem k_ml_X11_279 : Cond.methodLink RX11 279 yX5_silentFrom ∈ iv_W0 := k_c4 (List.mem_of_getElem? (i := 201) rfl) rfl
set_option maxRecDepth 20000 in
theorem k_ml_X11_282 : Cond.methodLink RX11 282 yX11_chosen ∈ iv_W0 := k_c4 (List.mem_of_getElem? (i := 210) rfl) rfl
set_option maxRecDepth 20000 in
theorem k_ml_X11_285 : Cond.methodLink RX11 285 yX5_howManySound ∈ iv_W0 := k_c4 (List.mem_of_getElem? (i := 217) rfl) rfl
set_option maxRecDepth 20000 in
theorem k_ml_X11_288 : Cond.methodLink RX11 288 yJ6_bitCount_0f7a4 ∈ iv_W0 := k_c4 (List.mem_of_getElem? (i := 222) rfl) rfl
set_option maxRecDepth 20000 in
theorem k_ml_X11_293 : Cond.methodLink RX11 293 yX5_isRung ∈ iv_W0 := k_c4 (List.mem_of_getElem? (i := 227) rfl) rfl
set_option maxRecDepth 20000 in
theorem k_ml_X11_297 : Cond.methodLink RX11 297 yX2_doQuarrel ∈ iv_W0 := k_c5 (List.mem_of_getElem? (i := 0) rfl) rfl
set_option maxRecDepth 20000 in
theorem k_ml_X11_300 : Cond.methodLink RX11 300 yJ9_max_7cf53 ∈ iv_W0 := k_c5 (List.mem_of_getElem? (i := 12) rfl) rfl
set_option maxRecDepth 20000 in
theorem k_ml_X11_306 : Cond.methodLink RX11 306 yX4_seatAll ∈ iv_W0 := k_c5 (List.mem_of_getElem? (i := 30) rfl) rfl
set_option maxRecDepth 20000 in
theorem k_ml_X11_310 : Cond.methodLink RX11 310 yX4_hourOf ∈ iv_W0 := k_c5 (List.mem_of_getElem? (i := 43) rfl) rfl
set_option maxRecDepth 20000 in
theorem k_ml_X11_313 : Cond.methodLink RX11 313 yX9_leastHarm ∈ iv_W0 := k_c5 (List.mem_of_getElem? (i := 52) rfl) rfl
set_option maxRecDepth 20000 in
theorem k_ml_X11_316 : Cond.methodLink RX11 316 yX9_hopeOf ∈ iv_W0 := k_c5 (List.mem_of_getElem? (i := 73) rfl) rfl
set_option maxRecDepth 20000 in
theorem k_ml_X11_319 : Cond.methodLink RX11 319 yX9_rowFrom ∈ iv_W0 := k_c5 (List.mem_of_getElem? (i := 78) rfl) rfl
set_option maxRecDepth 20000 in
theorem k_ml_X11_322 : Cond.methodLink RX11 322 yX5_isSetOfBells ∈ iv_W0 := k_c5 (List.mem_of_getElem? (i := 90) rfl) rfl
set_option maxRecDepth 20000 in
theorem k_ml_X11_325 : Cond.methodLink RX11 325 yX9_canRaise ∈ iv_W0 := k_c5 (List.mem_of_getElem? (i := 94) rfl) rfl
set_option maxRecDepth 20000 in
theorem k_ml_X11_328 : Cond.methodLink RX11 328 yX5_areOctaves ∈ iv_W0 := k_c5 (List.mem_of_getElem? (i := 107) rfl) rfl
set_option maxRecDepth 20000 in
theorem k_ml_X11_331 : Cond.methodLink RX11 331 yX4_countPeals ∈ iv_W0 := k_c5 (List.mem_of_getElem? (i := 112) rfl) rfl
set_option maxRecDepth 20000 in
theorem k_ml_X11_334 : Cond.methodLink RX11 334 yX4_inFirstPeal ∈ iv_W0 := k_c5 (List.mem_of_getElem? (i := 128) rfl) rfl
set_option maxRecDepth 20000 in
theorem k_ml_X11_337 : Cond.methodLink RX11 337 yX9_wrongNow ∈ iv_W0 := k_c5 (List.mem_of_getElem? (i := 140) rfl) rfl
set_option maxRecDepth 20000 in
theorem k_ml_X11_340 : Cond.methodLink RX11 340 yX9_swapsToRight ∈ iv_W0 := k_c5 (List.mem_of_getElem? (i := 158) rfl) rfl
set_option maxRecDepth 20000 in
theorem k_ml_X11_343 : Cond.methodLink RX11 343 yX9_rightThen ∈ iv_W0 := k_c5 (List.mem_of_getElem? (i := 166) rfl) rfl
set_option maxRecDepth 20000 in
theorem k_ml_X11_349 : Cond.methodLink RX11 349 yX8_cut ∈ iv_W0 := k_c5 (List.mem_of_getElem? (i := 175) rfl) rfl
set_option maxRecDepth 20000 in
theorem k_ml_X11_352 : Cond.methodLink RX11 352 yX8_isFull ∈ iv_W0 := k_c5 (List.mem_of_getElem? (i := 179) rfl) rfl
set_option maxRecDepth 20000 in
theorem k_ml_X11_356 : Cond.methodLink RX11 356 yX9_fitting ∈ iv_W0 := k_c5 (List.mem_of_getElem? (i := 184) rfl) rfl
set_option maxRecDepth 20000 in
theorem k_ml_X11_359 : Cond.methodLink RX11 359 yX5_bellsWithLineAt ∈ iv_W0 := k_c5 (List.mem_of_getElem? (i := 196) rfl) rfl
set_option maxRecDepth 20000 in
theorem k_ml_X11_362 : Cond.methodLink RX11 362 yJ9_min_7cf53 ∈ iv_W0 := k_c5 (List.mem_of_getElem? (i := 208) rfl) rfl
set_option maxRecDepth 20000 in
theorem k_ml_X11_365 : Cond.methodLink RX11 365 yX6_giveBack ∈ iv_W0 := k_c5 (List.mem_of_getElem? (i := 213) rfl) rfl
set_option maxRecDepth 20000 in
theorem k_ml_X11_369 : Cond.methodLink RX11 369 yX5_copyFrom ∈ iv_W0 := k_c5 (List.mem_of_getElem? (i := 223) rfl) rfl
set_option maxRecDepth 20000 in
theorem k_ml_X11_39 : Cond.methodLink RX11 39 yX2_init ∈ iv_W0 := k_c2 (List.mem_of_getElem? (i := 116) rfl) rfl
set_option maxRecDepth 20000 in
theorem k_ml_X11_48 : Cond.methodLink RX11 48 yX0_init ∈ iv_W0 := k_c2 (List.mem_of_getElem? (i := 129) rfl) rfl
set_option maxRecDepth 20000 in
theorem k_ml_X11_57 : Cond.methodLink RX11 57 yX9_init ∈ iv_W0 := k_c2 (List.mem_of_getElem? (i := 142) rfl) rfl
set_option maxRecDepth 20000 in
theorem k_ml_X11_64 : Cond.methodLink RX11 64 yX4_init ∈ iv_W0 := k_c2 (List.mem_of_getElem? (i := 155) rfl) rfl
set_option maxRecDepth 20000 in
theorem k_ml_X11_76 : Cond.methodLink RX11 76 yX6_forget ∈ iv_W0 := k_c2 (List.mem_of_getElem? (i := 216) rfl) rfl
set_option maxRecDepth 20000 in
theorem k_ml_X11_79 : Cond.methodLink RX11 79 yX11_isTower ∈ iv_W0 := k_c2 (List.mem_of_getElem? (i := 224) rfl) rfl
set_option maxRecDepth 20000 in
theorem k_ml_X11_83 : Cond.methodLink RX11 83 yX11_isWithin ∈ iv_W0 := k_c2 (List.mem_of_getElem? (i := 227) rfl) rfl
set_option maxRecDepth 20000 in
theorem k_ml_X11_97 : Cond.methodLink RX11 97 yX1_begin ∈ iv_W0 := k_c2 (List.mem_of_getElem? (i := 234) rfl) rfl
set_option maxRecDepth 20000 in
theorem k_ml_L_101 : Cond.methodLink RL 101 yX12_rows ∈ iv_W0 := k_c8 (List.mem_of_getElem? (i := 66) rfl) rfl
set_option maxRecDepth 20000 in
theorem k_ml_L_102 : Cond.methodLink RL 102 yX11_melts ∈ iv_W0 := k_c5 (List.mem_of_getElem? (i := 48) rfl) rfl
set_option maxRecDepth 20000 in
theorem k_ml_L_105 : Cond.methodLink RL 105 yX12_melts ∈ iv_W0 := k_c8 (List.mem_of_getElem? (i := 78) rfl) rfl
set_option maxRecDepth 20000 in
theorem k_ml_L_106 : Cond.methodLink RL 106 yX11_siblings ∈ iv_W0 := k_c5 (List.mem_of_getElem? (i := 74) rfl) rfl
set_option maxRecDepth 20000 in
theorem k_ml_L_109 : Cond.methodLink RL 109 yX12_siblings ∈ iv_W0 := k_c8 (List.mem_of_getElem? (i := 94) rfl) rfl
set_option maxRecDepth 20000 in
theorem k_ml_L_110 : Cond.methodLink RL 110 yX11_right ∈ iv_W0 := k_c5 (List.mem_of_getElem? (i := 136) rfl) rfl
set_option maxRecDepth 20000 in
theorem k_ml_L_113 : Cond.methodLink RL 113 yX12_right ∈ iv_W0 := k_c8 (List.mem_of_getElem? (i := 102) rfl) rfl
set_option maxRecDepth 20000 in
theorem k_ml_L_114 : Cond.methodLink RL 114 yX11_turn ∈ iv_W0 := k_c5 (List.mem_of_getElem? (i := 171) rfl) rfl
set_option maxRecDepth 20000 in
theorem k_ml_L_117 : Cond.methodLink RL 117 yX12_turn ∈ iv_W0 := k_c8 (List.mem_of_getElem? (i := 130) rfl) rfl
set_option maxRecDepth 20000 in
theorem k_ml_L_118 : Cond.methodLink RL 118 yX11_fits ∈ iv_W0 := k_c5 (List.mem_of_getElem? (i := 180) rfl) rfl
set_option maxRecDepth 20000 in
theorem k_ml_L_12 : Cond.methodLink RL 12 yX12_init ∈ iv_W0 := k_c6 (List.mem_of_getElem? (i := 5) rfl) rfl
set_option maxRecDepth 20000 in
theorem k_ml_L_121 : Cond.methodLink RL 121 yX12_fits ∈ iv_W0 := k_c8 (List.mem_of_getElem? (i := 134) rfl) rfl
set_option maxRecDepth 20000 in
theorem k_ml_L_122 : Cond.methodLink RL 122 yX11_ask ∈ iv_W0 := k_c5 (List.mem_of_getElem? (i := 192) rfl) rfl
set_option maxRecDepth 20000 in
theorem k_ml_L_125 : Cond.methodLink RL 125 yX12_ask ∈ iv_W0 := k_c8 (List.mem_of_getElem? (i := 146) rfl) rfl
set_option maxRecDepth 20000 in
theorem k_ml_L_126 : Cond.methodLink RL 126 yX11_stop ∈ iv_W0 := k_c5 (List.mem_of_getElem? (i := 8) rfl) rfl
set_option maxRecDepth 20000 in
theorem k_ml_L_129 : Cond.methodLink RL 129 yX12_stop ∈ iv_W0 := k_c8 (List.mem_of_getElem? (i := 154) rfl) rfl
set_option maxRecDepth 20000 in
theorem k_ml_L_13 : Cond.methodLink RL 13 yX11_state ∈ iv_W0 := k_c2 (List.mem_of_getElem? (i := 212) rfl) rfl
set_option maxRecDepth 20000 in
theorem k_ml_L_130 : Cond.methodLink RL 130 yX11_late ∈ iv_W0 := k_c5 (List.mem_of_getElem? (i := 13) rfl) rfl
set_option maxRecDepth 20000 in
theorem k_ml_L_133 : Cond.methodLink RL 133 yX12_late ∈ iv_W0 := k_c8 (List.mem_of_getElem? (i := 162) rfl) rfl
set_option maxRecDepth 20000 in
theorem k_ml_L_134 : Cond.methodLink RL 134 yX11_louder ∈ iv_W0 := k_c5 (List.mem_of_getElem? (i := 204) rfl) rfl
set_option maxRecDepth 20000 in
theorem k_ml_L_138 : Cond.methodLink RL 138 yX12_louder ∈ iv_W0 := k_c8 (List.mem_of_getElem? (i := 166) rfl) rfl
set_option maxRecDepth 20000 in
theorem k_ml_L_139 : Cond.methodLink RL 139 yX11_ropes ∈ iv_W0 := k_c4 (List.mem_of_getElem? (i := 213) rfl) rfl
set_option maxRecDepth 20000 in
theorem k_ml_L_142 : Cond.methodLink RL 142 yX12_ropes ∈ iv_W0 := k_c8 (List.mem_of_getElem? (i := 4) rfl) rfl
set_option maxRecDepth 20000 in
theorem k_ml_L_143 : Cond.methodLink RL 143 yX11_free ∈ iv_W0 := k_c4 (List.mem_of_getElem? (i := 223) rfl) rfl
set_option maxRecDepth 20000 in
theorem k_ml_L_146 : Cond.methodLink RL 146 yX12_free ∈ iv_W0 := k_c8 (List.mem_of_getElem? (i := 25) rfl) rfl
set_option maxRecDepth 20000 in
theorem k_ml_L_147 : Cond.methodLink RL 147 yX11_placed ∈ iv_W0 := k_c4 (List.mem_of_getElem? (i := 232) rfl) rfl
set_option maxRecDepth 20000 in
theorem k_ml_L_150 : Cond.methodLink RL 150 yX12_placed ∈ iv_W0 := k_c8 (List.mem_of_getElem? (i := 37) rfl) rfl
set_option maxRecDepth 20000 in
theorem k_ml_L_151 : Cond.methodLink RL 151 yX11_quarrels ∈ iv_W0 := k_c4 (List.mem_of_getElem? (i := 236) rfl) rfl
set_option maxRecDepth 20000 in
theorem k_ml_L_154 : Cond.methodLink RL 154 yX12_quarrels ∈ iv_W0 := k_c8 (List.mem_of_getElem? (i := 41) rfl) rfl
set_option maxRecDepth 20000 in
theorem k_ml_L_155 : Cond.methodLink RL 155 yX11_likeliest ∈ iv_W0 := k_c5 (List.mem_of_getElem? (i := 4) rfl) rfl
set_option maxRecDepth 20000 in
theorem k_ml_L_159 : Cond.methodLink RL 159 yX12_likeliest ∈ iv_W0 := k_c8 (List.mem_of_getElem? (i := 49) rfl) rfl
set_option maxRecDepth 20000 in
theorem k_ml_L_160 : Cond.methodLink RL 160 yX11_noneYet ∈ iv_W0 := k_c5 (List.mem_of_getElem? (i := 18) rfl) rfl
set_option maxRecDepth 20000 in
theorem k_ml_L_163 : Cond.methodLink RL 163 yX12_noneYet ∈ iv_W0 := k_c8 (List.mem_of_getElem? (i := 53) rfl) rfl
set_option maxRecDepth 20000 in
theorem k_ml_L_164 : Cond.methodLink RL 164 yX11_raised ∈ iv_W0 := k_c5 (List.mem_of_getElem? (i := 86) rfl) rfl
set_option maxRecDepth 20000 in
theorem k_ml_L_167 : Cond.methodLink RL 167 yX12_raised ∈ iv_W0 := k_c8 (List.mem_of_getElem? (i := 58) rfl) rfl
set_option maxRecDepth 20000 in
theorem k_ml_L_168 : Cond.methodLink RL 168 yX11_chorus ∈ iv_W0 := k_c4 (List.mem_of_getElem? (i := 218) rfl) rfl
set_option maxRecDepth 20000 in
theorem k_ml_L_17 : Cond.methodLink RL 17 yX12_state ∈ iv_W0 := k_c6 (List.mem_of_getElem? (i := 106) rfl) rfl
set_option maxRecDepth 20000 in
theorem k_ml_L_171 : Cond.methodLink RL 171 yX12_chorus ∈ iv_W0 := k_c8 (List.mem_of_getElem? (i := 12) rfl) rfl
set_option maxRecDepth 20000 in
theorem k_ml_L_172 : Cond.methodLink RL 172 yX11_hopes ∈ iv_W0 := k_c5 (List.mem_of_getElem? (i := 22) rfl) rfl
set_option maxRecDepth 20000 in
theorem k_ml_L_175 : Cond.methodLink RL 175 yX12_hopes ∈ iv_W0 := k_c8 (List.mem_of_getElem? (i := 158) rfl) rfl
set_option maxRecDepth 20000 in
theorem k_ml_L_176 : Cond.methodLink RL 176 yX11_octaves ∈ iv_W0 := k_c5 (List.mem_of_getElem? (i := 103) rfl) rfl
set_option maxRecDepth 20000 in
theorem k_ml_L_179 : Cond.methodLink RL 179 yX12_octaves ∈ iv_W0 := k_c8 (List.mem_of_getElem? (i := 17) rfl) rfl
set_option maxRecDepth 20000 in
theorem k_ml_L_18 : Cond.methodLink RL 18 yX11_far ∈ iv_W0 := k_c2 (List.mem_of_getElem? (i := 220) rfl) rfl
set_option maxRecDepth 20000 in
theorem k_ml_L_180 : Cond.methodLink RL 180 yX11_eldest ∈ iv_W0 := k_c5 (List.mem_of_getElem? (i := 200) rfl) rfl
set_option maxRecDepth 20000 in
theorem k_ml_L_183 : Cond.methodLink RL 183 yX12_eldest ∈ iv_W0 := k_c8 (List.mem_of_getElem? (i := 21) rfl) rfl
set_option maxRecDepth 20000 in
theorem k_ml_L_184 : Cond.methodLink RL 184 yX11_peals ∈ iv_W0 := k_c5 (List.mem_of_getElem? (i := 108) rfl) rfl
set_option maxRecDepth 20000 in
theorem k_ml_L_187 : Cond.methodLink RL 187 yX12_peals ∈ iv_W0 := k_c8 (List.mem_of_getElem? (i := 173) rfl) rfl
set_option maxRecDepth 20000 in
theorem k_ml_L_188 : Cond.methodLink RL 188 yX11_undo ∈ iv_W0 := k_c5 (List.mem_of_getElem? (i := 209) rfl) rfl
set_option maxRecDepth 20000 in
theorem k_ml_L_192 : Cond.methodLink RL 192 yX12_undo ∈ iv_W0 := k_c7 (List.mem_of_getElem? (i := 53) rfl) rfl
set_option maxRecDepth 20000 in
theorem k_ml_L_193 : Cond.methodLink RL 193 yX11_image ∈ iv_W0 := k_c5 (List.mem_of_getElem? (i := 219) rfl) rfl
set_option maxRecDepth 20000 in
theorem k_ml_L_197 : Cond.methodLink RL 197 yX12_image ∈ iv_W0 := k_c8 (List.mem_of_getElem? (i := 185) rfl) rfl
set_option maxRecDepth 20000 in
theorem k_ml_L_198 : Cond.methodLink RL 198 yX11_look ∈ iv_W0 := k_c5 (List.mem_of_getElem? (i := 239) rfl) rfl
set_option maxRecDepth 20000 in
theorem k_ml_L_201 : Cond.methodLink RL 201 yX12_look ∈ iv_W0 := k_c8 (List.mem_of_getElem? (i := 189) rfl) rfl
set_option maxRecDepth 20000 in
theorem k_ml_L_22 : Cond.methodLink RL 22 yX12_far ∈ iv_W0 := k_c6 (List.mem_of_getElem? (i := 114) rfl) rfl
set_option maxRecDepth 20000 in
theorem k_ml_L_23 : Cond.methodLink RL 23 yX11_bell ∈ iv_W0 := k_c2 (List.mem_of_getElem? (i := 230) rfl) rfl
set_option maxRecDepth 20000 in
theorem k_ml_L_27 : Cond.methodLink RL 27 yX12_bell ∈ iv_W0 := k_c6 (List.mem_of_getElem? (i := 124) rfl) rfl
set_option maxRecDepth 20000 in
theorem k_ml_L_28 : Cond.methodLink RL 28 yX11_set ∈ iv_W0 := k_c2 (List.mem_of_getElem? (i := 238) rfl) rfl
set_option maxRecDepth 20000 in
theorem k_ml_L_31 : Cond.methodLink RL 31 yX12_set ∈ iv_W0 := k_c6 (List.mem_of_getElem? (i := 132) rfl) rfl
set_option maxRecDepth 20000 in
theorem k_ml_L_32 : Cond.methodLink RL 32 yX11_melt ∈ iv_W0 := k_c3 (List.mem_of_getElem? (i := 14) rfl) rfl
set_option maxRecDepth 20000 in
theorem k_ml_L_36 : Cond.methodLink RL 36 yX12_melt ∈ iv_W0 := k_c7 (List.mem_of_getElem? (i := 57) rfl) rfl
set_option maxRecDepth 20000 in
theorem k_ml_L_37 : Cond.methodLink RL 37 yX11_muffle ∈ iv_W0 := k_c3 (List.mem_of_getElem? (i := 44) rfl) rfl
set_option maxRecDepth 20000 in
theorem k_ml_L_41 : Cond.methodLink RL 41 yX12_muffle ∈ iv_W0 := k_c7 (List.mem_of_getElem? (i := 73) rfl) rfl
set_option maxRecDepth 20000 in
theorem k_ml_L_42 : Cond.methodLink RL 42 yX11_swap ∈ iv_W0 := k_c3 (List.mem_of_getElem? (i := 48) rfl) rfl
set_option maxRecDepth 20000 in
theorem k_ml_L_46 : Cond.methodLink RL 46 yX12_swap ∈ iv_W0 := k_c7 (List.mem_of_getElem? (i := 77) rfl) rfl
set_option maxRecDepth 20000 in
theorem k_ml_L_47 : Cond.methodLink RL 47 yX11_days ∈ iv_W0 := k_c3 (List.mem_of_getElem? (i := 55) rfl) rfl
set_option maxRecDepth 20000 in
theorem k_ml_L_50 : Cond.methodLink RL 50 yX12_days ∈ iv_W0 := k_c7 (List.mem_of_getElem? (i := 93) rfl) rfl
set_option maxRecDepth 20000 in
theorem k_ml_L_51 : Cond.methodLink RL 51 yX11_feed ∈ iv_W0 := k_c3 (List.mem_of_getElem? (i := 158) rfl) rfl
set_option maxRecDepth 20000 in
theorem k_ml_L_55 : Cond.methodLink RL 55 yX12_feed ∈ iv_W0 := k_c6 (List.mem_of_getElem? (i := 144) rfl) rfl
set_option maxRecDepth 20000 in
theorem k_ml_L_56 : Cond.methodLink RL 56 yX11_end ∈ iv_W0 := k_c3 (List.mem_of_getElem? (i := 166) rfl) rfl
set_option maxRecDepth 20000 in
theorem k_ml_L_59 : Cond.methodLink RL 59 yX12_end ∈ iv_W0 := k_c6 (List.mem_of_getElem? (i := 148) rfl) rfl
set_option maxRecDepth 20000 in
theorem k_ml_L_60 : Cond.methodLink RL 60 yX11_text ∈ iv_W0 := k_c3 (List.mem_of_getElem? (i := 170) rfl) rfl
set_option maxRecDepth 20000 in
theorem k_ml_L_63 : Cond.methodLink RL 63 yX12_text ∈ iv_W0 := k_c6 (List.mem_of_getElem? (i := 152) rfl) rfl
set_option maxRecDepth 20000 in
theorem k_ml_L_64 : Cond.methodLink RL 64 yX11_fault ∈ iv_W0 := k_c4 (List.mem_of_getElem? (i := 156) rfl) rfl
set_option maxRecDepth 20000 in
theorem k_ml_L_67 : Cond.methodLink RL 67 yX12_fault ∈ iv_W0 := k_c7 (List.mem_of_getElem? (i := 49) rfl) rfl
set_option maxRecDepth 20000 in
theorem k_ml_L_68 : Cond.methodLink RL 68 yX11_of ∈ iv_W0 := k_c4 (List.mem_of_getElem? (i := 160) rfl) rfl
set_option maxRecDepth 20000 in
theorem k_ml_L_72 : Cond.methodLink RL 72 yX12_of ∈ iv_W0 := k_c7 (List.mem_of_getElem? (i := 205) rfl) rfl
set_option maxRecDepth 20000 in
theorem k_ml_L_73 : Cond.methodLink RL 73 yX11_loud ∈ iv_W0 := k_c4 (List.mem_of_getElem? (i := 167) rfl) rfl
set_option maxRecDepth 20000 in
theorem k_ml_L_77 : Cond.methodLink RL 77 yX12_loud ∈ iv_W0 := k_c7 (List.mem_of_getElem? (i := 209) rfl) rfl
set_option maxRecDepth 20000 in
theorem k_ml_L_78 : Cond.methodLink RL 78 yX11_astray ∈ iv_W0 := k_c4 (List.mem_of_getElem? (i := 175) rfl) rfl
set_option maxRecDepth 20000 in
theorem k_ml_L_81 : Cond.methodLink RL 81 yX12_astray ∈ iv_W0 := k_c7 (List.mem_of_getElem? (i := 216) rfl) rfl
set_option maxRecDepth 20000 in
theorem k_ml_L_82 : Cond.methodLink RL 82 yX11_child ∈ iv_W0 := k_c4 (List.mem_of_getElem? (i := 181) rfl) rfl
set_option maxRecDepth 20000 in
theorem k_ml_L_85 : Cond.methodLink RL 85 yX12_child ∈ iv_W0 := k_c7 (List.mem_of_getElem? (i := 220) rfl) rfl
set_option maxRecDepth 20000 in
theorem k_ml_L_86 : Cond.methodLink RL 86 yX11_book ∈ iv_W0 := k_c4 (List.mem_of_getElem? (i := 185) rfl) rfl
set_option maxRecDepth 20000 in
theorem k_ml_L_89 : Cond.methodLink RL 89 yX12_book ∈ iv_W0 := k_c7 (List.mem_of_getElem? (i := 224) rfl) rfl
set_option maxRecDepth 20000 in
theorem k_ml_L_9 : Cond.methodLink RL 9 yX11_init ∈ iv_W0 := k_c1 (List.mem_of_getElem? (i := 25) rfl) rfl
set_option maxRecDepth 20000 in
theorem k_ml_L_90 : Cond.methodLink RL 90 yX11_heard ∈ iv_W0 := k_c4 (List.mem_of_getElem? (i := 189) rfl) rfl
set_option maxRecDepth 20000 in
theorem k_ml_L_93 : Cond.methodLink RL 93 yX12_heard ∈ iv_W0 := k_c7 (List.mem_of_getElem? (i := 228) rfl) rfl
set_option maxRecDepth 20000 in
theorem k_ml_L_94 : Cond.methodLink RL 94 yX11_silence ∈ iv_W0 := k_c4 (List.mem_of_getElem? (i := 197) rfl) rfl
set_option maxRecDepth 20000 in
theorem k_ml_L_97 : Cond.methodLink RL 97 yX12_silence ∈ iv_W0 := k_c7 (List.mem_of_getElem? (i := 232) rfl) rfl
set_option maxRecDepth 20000 in
theorem k_ml_L_98 : Cond.methodLink RL 98 yX11_rows ∈ iv_W0 := k_c5 (List.mem_of_getElem? (i := 26) rfl) rfl
set_option maxRecDepth 20000 in
theorem k_ml_X12_103 : Cond.methodLink RX12 103 yX12_is ∈ iv_W0 := k_c6 (List.mem_of_getElem? (i := 176) rfl) rfl
set_option maxRecDepth 20000 in
theorem k_ml_X12_128 : Cond.methodLink RX12 128 yX12_asked ∈ iv_W0 := k_c6 (List.mem_of_getElem? (i := 196) rfl) rfl
set_option maxRecDepth 20000 in
theorem k_ml_X12_144 : Cond.methodLink RX12 144 yX12_ringWord ∈ iv_W0 := k_c6 (List.mem_of_getElem? (i := 171) rfl) rfl
set_option maxRecDepth 20000 in
theorem k_ml_X12_155 : Cond.methodLink RX12 155 yX12_soundWord ∈ iv_W0 := k_c6 (List.mem_of_getElem? (i := 188) rfl) rfl
set_option maxRecDepth 20000 in
theorem k_ml_X12_158 : Cond.methodLink RX12 158 yX12_comingWord ∈ iv_W0 := k_c6 (List.mem_of_getElem? (i := 205) rfl) rfl
set_option maxRecDepth 20000 in
theorem k_ml_X12_161 : Cond.methodLink RX12 161 yX12_see ∈ iv_W0 := k_c6 (List.mem_of_getElem? (i := 160) rfl) rfl
set_option maxRecDepth 20000 in
theorem k_ml_X12_168 : Cond.methodLink RX12 168 yX12_isLetter ∈ iv_W0 := k_c6 (List.mem_of_getElem? (i := 164) rfl) rfl
set_option maxRecDepth 20000 in
theorem k_ml_X12_171 : Cond.methodLink RX12 171 yX12_word ∈ iv_W0 := k_c6 (List.mem_of_getElem? (i := 167) rfl) rfl
set_option maxRecDepth 20000 in
theorem k_ml_X12_174 : Cond.methodLink RX12 174 yX12_isDigit ∈ iv_W0 := k_c6 (List.mem_of_getElem? (i := 214) rfl) rfl
set_option maxRecDepth 20000 in
theorem k_ml_X12_186 : Cond.methodLink RX12 186 yX12_bad ∈ iv_W0 := k_c6 (List.mem_of_getElem? (i := 225) rfl) rfl
set_option maxRecDepth 20000 in
theorem k_ml_X12_189 : Cond.methodLink RX12 189 yX12_next0 ∈ iv_W0 := k_c6 (List.mem_of_getElem? (i := 156) rfl) rfl
set_option maxRecDepth 20000 in
theorem k_ml_X12_198 : Cond.methodLink RX12 198 yX12_product ∈ iv_W0 := k_c7 (List.mem_of_getElem? (i := 13) rfl) rfl
set_option maxRecDepth 20000 in
theorem k_ml_X12_202 : Cond.methodLink RX12 202 yX12_lay ∈ iv_W0 := k_c7 (List.mem_of_getElem? (i := 21) rfl) rfl
set_option maxRecDepth 20000 in
theorem k_ml_X12_206 : Cond.methodLink RX12 206 yX12_unit ∈ iv_W0 := k_c7 (List.mem_of_getElem? (i := 17) rfl) rfl
set_option maxRecDepth 20000 in
theorem k_ml_X12_209 : Cond.methodLink RX12 209 yX12_every ∈ iv_W0 := k_c7 (List.mem_of_getElem? (i := 29) rfl) rfl
set_option maxRecDepth 20000 in
theorem k_ml_X12_212 : Cond.methodLink RX12 212 yX12_oneTest ∈ iv_W0 := k_c7 (List.mem_of_getElem? (i := 33) rfl) rfl
set_option maxRecDepth 20000 in
theorem k_ml_X12_215 : Cond.methodLink RX12 215 yX12_opens ∈ iv_W0 := k_c7 (List.mem_of_getElem? (i := 37) rfl) rfl
set_option maxRecDepth 20000 in
theorem k_ml_X12_218 : Cond.methodLink RX12 218 yX12_any ∈ iv_W0 := k_c7 (List.mem_of_getElem? (i := 25) rfl) rfl
set_option maxRecDepth 20000 in
theorem k_ml_X12_221 : Cond.methodLink RX12 221 yX12_need ∈ iv_W0 := k_c6 (List.mem_of_getElem? (i := 233) rfl) rfl
set_option maxRecDepth 20000 in
theorem k_ml_X12_224 : Cond.methodLink RX12 224 yX12_sumUp ∈ iv_W0 := k_c7 (List.mem_of_getElem? (i := 9) rfl) rfl
set_option maxRecDepth 20000 in
theorem k_ml_X12_230 : Cond.methodLink RX12 230 yX12_aLine ∈ iv_W0 := k_c7 (List.mem_of_getElem? (i := 5) rfl) rfl
set_option maxRecDepth 20000 in
theorem k_ml_X12_236 : Cond.methodLink RX12 236 yX12_number ∈ iv_W0 := k_c6 (List.mem_of_getElem? (i := 237) rfl) rfl
set_option maxRecDepth 20000 in
theorem k_ml_X12_243 : Cond.methodLink RX12 243 yX12_told ∈ iv_W0 := k_c6 (List.mem_of_getElem? (i := 229) rfl) rfl
set_option maxRecDepth 20000 in
theorem k_ml_X12_247 : Cond.methodLink RX12 247 yX12_aRing ∈ iv_W0 := k_c6 (List.mem_of_getElem? (i := 221) rfl) rfl
set_option maxRecDepth 20000 in
theorem k_ml_X12_253 : Cond.methodLink RX12 253 yX12_readsRings ∈ iv_W0 := k_c6 (List.mem_of_getElem? (i := 217) rfl) rfl
set_option maxRecDepth 20000 in
theorem k_ml_X12_256 : Cond.methodLink RX12 256 yX12_readsLaw ∈ iv_W0 := k_c7 (List.mem_of_getElem? (i := 1) rfl) rfl
set_option maxRecDepth 20000 in
theorem k_ml_X12_259 : Cond.methodLink RX12 259 yX12_putsRings ∈ iv_W0 := k_c7 (List.mem_of_getElem? (i := 41) rfl) rfl
set_option maxRecDepth 20000 in
theorem k_ml_X12_262 : Cond.methodLink RX12 262 yX12_putsLaw ∈ iv_W0 := k_c7 (List.mem_of_getElem? (i := 45) rfl) rfl
set_option maxRecDepth 20000 in
theorem k_ml_X12_265 : Cond.methodLink RX12 265 yX12_both ∈ iv_W0 := k_c7 (List.mem_of_getElem? (i := 168) rfl) rfl
set_option maxRecDepth 20000 in
theorem k_ml_X12_269 : Cond.methodLink RX12 269 yX12_comesTo ∈ iv_W0 := k_c7 (List.mem_of_getElem? (i := 164) rfl) rfl
set_option maxRecDepth 20000 in
theorem k_ml_X12_272 : Cond.methodLink RX12 272 yX12_isSo ∈ iv_W0 := k_c7 (List.mem_of_getElem? (i := 160) rfl) rfl
set_option maxRecDepth 20000 in
theorem k_ml_X12_275 : Cond.methodLink RX12 275 yX12_lesser ∈ iv_W0 := k_c7 (List.mem_of_getElem? (i := 171) rfl) rfl
set_option maxRecDepth 20000 in
theorem k_ml_X12_279 : Cond.methodLink RX12 279 yX12_greater ∈ iv_W0 := k_c7 (List.mem_of_getElem? (i := 174) rfl) rfl
set_option maxRecDepth 20000 in
theorem k_ml_X12_282 : Cond.methodLink RX12 282 yX12_ofBell ∈ iv_W0 := k_c7 (List.mem_of_getElem? (i := 61) rfl) rfl
set_option maxRecDepth 20000 in
theorem k_ml_X12_285 : Cond.methodLink RX12 285 yX12_lays ∈ iv_W0 := k_c7 (List.mem_of_getElem? (i := 148) rfl) rfl
set_option maxRecDepth 20000 in
theorem k_ml_X12_289 : Cond.methodLink RX12 289 yX12_farOf ∈ iv_W0 := k_c7 (List.mem_of_getElem? (i := 152) rfl) rfl
set_option maxRecDepth 20000 in
theorem k_ml_X12_292 : Cond.methodLink RX12 292 yX12_says ∈ iv_W0 := k_c7 (List.mem_of_getElem? (i := 156) rfl) rfl
set_option maxRecDepth 20000 in
theorem k_ml_X12_296 : Cond.methodLink RX12 296 yX12_isLineAt ∈ iv_W0 := k_c7 (List.mem_of_getElem? (i := 113) rfl) rfl
set_option maxRecDepth 20000 in
theorem k_ml_X12_299 : Cond.methodLink RX12 299 yX12_hasLine ∈ iv_W0 := k_c7 (List.mem_of_getElem? (i := 109) rfl) rfl
set_option maxRecDepth 20000 in
theorem k_ml_X12_302 : Cond.methodLink RX12 302 yX12_sounds ∈ iv_W0 := k_c7 (List.mem_of_getElem? (i := 105) rfl) rfl
set_option maxRecDepth 20000 in
theorem k_ml_X12_305 : Cond.methodLink RX12 305 yX12_apart ∈ iv_W0 := k_c7 (List.mem_of_getElem? (i := 141) rfl) rfl
set_option maxRecDepth 20000 in
theorem k_ml_X12_308 : Cond.methodLink RX12 308 yX12_loudOf ∈ iv_W0 := k_c7 (List.mem_of_getElem? (i := 144) rfl) rfl
set_option maxRecDepth 20000 in
theorem k_ml_X12_311 : Cond.methodLink RX12 311 yX12_drowns ∈ iv_W0 := k_c7 (List.mem_of_getElem? (i := 137) rfl) rfl
set_option maxRecDepth 20000 in
theorem k_ml_X12_314 : Cond.methodLink RX12 314 yX12_isClear ∈ iv_W0 := k_c7 (List.mem_of_getElem? (i := 133) rfl) rfl
set_option maxRecDepth 20000 in
theorem k_ml_X12_317 : Cond.methodLink RX12 317 yX12_clearOf ∈ iv_W0 := k_c7 (List.mem_of_getElem? (i := 129) rfl) rfl
set_option maxRecDepth 20000 in
theorem k_ml_X12_320 : Cond.methodLink RX12 320 yX12_count ∈ iv_W0 := k_c7 (List.mem_of_getElem? (i := 177) rfl) rfl
set_option maxRecDepth 20000 in
theorem k_ml_X12_323 : Cond.methodLink RX12 323 yX12_comingSays ∈ iv_W0 := k_c7 (List.mem_of_getElem? (i := 125) rfl) rfl
set_option maxRecDepth 20000 in
theorem k_ml_X12_326 : Cond.methodLink RX12 326 yX12_isOctave ∈ iv_W0 := k_c7 (List.mem_of_getElem? (i := 197) rfl) rfl
set_option maxRecDepth 20000 in
theorem k_ml_X12_329 : Cond.methodLink RX12 329 yX12_keeps ∈ iv_W0 := k_c7 (List.mem_of_getElem? (i := 65) rfl) rfl
set_option maxRecDepth 20000 in
theorem k_ml_X12_332 : Cond.methodLink RX12 332 yX12_notes ∈ iv_W0 := k_c7 (List.mem_of_getElem? (i := 69) rfl) rfl
set_option maxRecDepth 20000 in
theorem k_ml_X12_335 : Cond.methodLink RX12 335 yX12_ofChild ∈ iv_W0 := k_c7 (List.mem_of_getElem? (i := 89) rfl) rfl
set_option maxRecDepth 20000 in
theorem k_ml_X12_338 : Cond.methodLink RX12 338 yX12_isChild ∈ iv_W0 := k_c7 (List.mem_of_getElem? (i := 81) rfl) rfl
set_option maxRecDepth 20000 in
theorem k_ml_X12_341 : Cond.methodLink RX12 341 yX12_swaps ∈ iv_W0 := k_c7 (List.mem_of_getElem? (i := 85) rfl) rfl
set_option maxRecDepth 20000 in
theorem k_ml_X12_344 : Cond.methodLink RX12 344 yX12_comeOf ∈ iv_W0 := k_c7 (List.mem_of_getElem? (i := 121) rfl) rfl
set_option maxRecDepth 20000 in
theorem k_ml_X12_347 : Cond.methodLink RX12 347 yX12_slackOf ∈ iv_W0 := k_c7 (List.mem_of_getElem? (i := 180) rfl) rfl
set_option maxRecDepth 20000 in
theorem k_ml_X12_350 : Cond.methodLink RX12 350 yX12_draw ∈ iv_W0 := k_c7 (List.mem_of_getElem? (i := 184) rfl) rfl
set_option maxRecDepth 20000 in
theorem k_ml_X12_353 : Cond.methodLink RX12 353 yX12_soundingOf ∈ iv_W0 := k_c7 (List.mem_of_getElem? (i := 101) rfl) rfl
set_option maxRecDepth 20000 in
theorem k_ml_X12_356 : Cond.methodLink RX12 356 yX12_leastIn ∈ iv_W0 := k_c7 (List.mem_of_getElem? (i := 190) rfl) rfl
set_option maxRecDepth 20000 in
theorem k_ml_X12_359 : Cond.methodLink RX12 359 yX12_astrayOf ∈ iv_W0 := k_c7 (List.mem_of_getElem? (i := 193) rfl) rfl
set_option maxRecDepth 20000 in
theorem k_ml_X12_362 : Cond.methodLink RX12 362 yX12_comesOne ∈ iv_W0 := k_c7 (List.mem_of_getElem? (i := 201) rfl) rfl
set_option maxRecDepth 20000 in
theorem k_ml_X12_365 : Cond.methodLink RX12 365 yX12_isRung ∈ iv_W0 := k_c7 (List.mem_of_getElem? (i := 117) rfl) rfl
set_option maxRecDepth 20000 in
theorem k_ml_X12_368 : Cond.methodLink RX12 368 yX12_aDay ∈ iv_W0 := k_c7 (List.mem_of_getElem? (i := 97) rfl) rfl
set_option maxRecDepth 20000 in
theorem k_ml_X12_371 : Cond.methodLink RX12 371 yX12_isHour ∈ iv_W0 := k_c7 (List.mem_of_getElem? (i := 213) rfl) rfl
set_option maxRecDepth 20000 in
theorem k_ml_X12_374 : Cond.methodLink RX12 374 yX12_isSilent ∈ iv_W0 := k_c8 (List.mem_of_getElem? (i := 0) rfl) rfl
set_option maxRecDepth 20000 in
theorem k_ml_X12_377 : Cond.methodLink RX12 377 yX12_silentFrom ∈ iv_W0 := k_c7 (List.mem_of_getElem? (i := 236) rfl) rfl
set_option maxRecDepth 20000 in
theorem k_ml_X12_380 : Cond.methodLink RX12 380 yX12_soundingIn ∈ iv_W0 := k_c8 (List.mem_of_getElem? (i := 8) rfl) rfl
set_option maxRecDepth 20000 in
theorem k_ml_X12_383 : Cond.methodLink RX12 383 yX12_heard ∈ iv_W0 := k_c8 (List.mem_of_getElem? (i := 16) rfl) rfl
set_option maxRecDepth 20000 in
theorem k_ml_X12_386 : Cond.methodLink RX12 386 yX12_isRungBell ∈ iv_W0 := k_c8 (List.mem_of_getElem? (i := 29) rfl) rfl
set_option maxRecDepth 20000 in
theorem k_ml_X12_389 : Cond.methodLink RX12 389 yX12_isDrowned ∈ iv_W0 := k_c8 (List.mem_of_getElem? (i := 33) rfl) rfl
set_option maxRecDepth 20000 in
theorem k_ml_X12_392 : Cond.methodLink RX12 392 yX12_doQuarrel ∈ iv_W0 := k_c8 (List.mem_of_getElem? (i := 45) rfl) rfl
set_option maxRecDepth 20000 in
theorem k_ml_X12_396 : Cond.methodLink RX12 396 yX12_canBeRaised ∈ iv_W0 := k_c8 (List.mem_of_getElem? (i := 62) rfl) rfl
set_option maxRecDepth 20000 in
theorem k_ml_X12_399 : Cond.methodLink RX12 399 yX12_rowsFrom ∈ iv_W0 := k_c8 (List.mem_of_getElem? (i := 70) rfl) rfl
set_option maxRecDepth 20000 in
theorem k_ml_X12_402 : Cond.methodLink RX12 402 yX12_canRing ∈ iv_W0 := k_c8 (List.mem_of_getElem? (i := 74) rfl) rfl
set_option maxRecDepth 20000 in
theorem k_ml_X12_405 : Cond.methodLink RX12 405 yX12_sumOf ∈ iv_W0 := k_c8 (List.mem_of_getElem? (i := 86) rfl) rfl
set_option maxRecDepth 20000 in
theorem k_ml_X12_408 : Cond.methodLink RX12 408 yX12_unmelted ∈ iv_W0 := k_c8 (List.mem_of_getElem? (i := 82) rfl) rfl
set_option maxRecDepth 20000 in
theorem k_ml_X12_411 : Cond.methodLink RX12 411 yX12_isBetter ∈ iv_W0 := k_c8 (List.mem_of_getElem? (i := 90) rfl) rfl
set_option maxRecDepth 20000 in
theorem k_ml_X12_414 : Cond.methodLink RX12 414 yX12_isPitched ∈ iv_W0 := k_c8 (List.mem_of_getElem? (i := 98) rfl) rfl
set_option maxRecDepth 20000 in
theorem k_ml_X12_417 : Cond.methodLink RX12 417 yX12_isWrong ∈ iv_W0 := k_c8 (List.mem_of_getElem? (i := 110) rfl) rfl
set_option maxRecDepth 20000 in
theorem k_ml_X12_420 : Cond.methodLink RX12 420 yX12_canTakeFrom ∈ iv_W0 := k_c8 (List.mem_of_getElem? (i := 126) rfl) rfl
set_option maxRecDepth 20000 in
theorem k_ml_X12_423 : Cond.methodLink RX12 423 yX12_swapsWith ∈ iv_W0 := k_c8 (List.mem_of_getElem? (i := 122) rfl) rfl
set_option maxRecDepth 20000 in
theorem k_ml_X12_426 : Cond.methodLink RX12 426 yX12_nextSwap ∈ iv_W0 := k_c8 (List.mem_of_getElem? (i := 118) rfl) rfl
set_option maxRecDepth 20000 in
theorem k_ml_X12_429 : Cond.methodLink RX12 429 yX12_wrongs ∈ iv_W0 := k_c8 (List.mem_of_getElem? (i := 106) rfl) rfl
set_option maxRecDepth 20000 in
theorem k_ml_X12_432 : Cond.methodLink RX12 432 yX12_setsRight ∈ iv_W0 := k_c8 (List.mem_of_getElem? (i := 114) rfl) rfl
set_option maxRecDepth 20000 in
theorem k_ml_X12_435 : Cond.methodLink RX12 435 yX12_isOfTurns ∈ iv_W0 := k_c8 (List.mem_of_getElem? (i := 142) rfl) rfl
set_option maxRecDepth 20000 in
theorem k_ml_X12_438 : Cond.methodLink RX12 438 yX12_fitsOf ∈ iv_W0 := k_c8 (List.mem_of_getElem? (i := 138) rfl) rfl
set_option maxRecDepth 20000 in
theorem k_ml_X12_441 : Cond.methodLink RX12 441 yX12_greaterPart ∈ iv_W0 := k_c8 (List.mem_of_getElem? (i := 150) rfl) rfl
set_option maxRecDepth 20000 in
theorem k_ml_X12_444 : Cond.methodLink RX12 444 yX12_louderBy ∈ iv_W0 := k_c8 (List.mem_of_getElem? (i := 170) rfl) rfl
set_option maxRecDepth 20000 in
theorem k_ml_X12_450 : Cond.methodLink RX12 450 yX12_canFollow ∈ iv_W0 := k_c8 (List.mem_of_getElem? (i := 181) rfl) rfl
set_option maxRecDepth 20000 in
theorem k_ml_X12_453 : Cond.methodLink RX12 453 yX12_laysPeals ∈ iv_W0 := k_c8 (List.mem_of_getElem? (i := 177) rfl) rfl
set_option maxRecDepth 20000 in
theorem k_ml_X12_56 : Cond.methodLink RX12 56 yX12_isIn ∈ iv_W0 := k_c6 (List.mem_of_getElem? (i := 121) rfl) rfl
set_option maxRecDepth 20000 in
theorem k_ml_X12_63 : Cond.methodLink RX12 63 yX12_forgets ∈ iv_W0 := k_c6 (List.mem_of_getElem? (i := 110) rfl) rfl
set_option maxRecDepth 20000 in
theorem k_ml_X12_68 : Cond.methodLink RX12 68 yX12_isTower ∈ iv_W0 := k_c6 (List.mem_of_getElem? (i := 118) rfl) rfl
set_option maxRecDepth 20000 in
theorem k_ml_X12_72 : Cond.methodLink RX12 72 yX12_bells ∈ iv_W0 := k_c6 (List.mem_of_getElem? (i := 128) rfl) rfl
set_option maxRecDepth 20000 in
theorem k_ml_X12_76 : Cond.methodLink RX12 76 yX12_isBell ∈ iv_W0 := k_c6 (List.mem_of_getElem? (i := 140) rfl) rfl
set_option maxRecDepth 20000 in
theorem k_ml_X12_79 : Cond.methodLink RX12 79 yX12_canSet ∈ iv_W0 := k_c6 (List.mem_of_getElem? (i := 136) rfl) rfl
set_option maxRecDepth 20000 in
theorem k_ml_X12_91 : Cond.methodLink RX12 91 yJ0_length_8abf5 ∈ iv_W0 := k_c6 (List.mem_of_getElem? (i := 180) rfl) rfl
set_option maxRecDepth 20000 in
theorem k_ml_X12_97 : Cond.methodLink RX12 97 yJ0_charAt_5068e ∈ iv_W0 := k_c6 (List.mem_of_getElem? (i := 181) rfl) rfl
set_option maxRecDepth 20000 in
theorem k_ml_J0_1059 : Cond.methodLink RJ0 1059 yJ3_checkIndex_8e157 ∈ iv_W0 := k_c3 (List.mem_of_getElem? (i := 235) rfl) rfl
set_option maxRecDepth 20000 in
theorem k_ml_J0_1062 : Cond.methodLink RJ0 1062 yJ3_checkFromToIndex_8c36e ∈ iv_W0 := k_c4 (List.mem_of_getElem? (i := 53) rfl) rfl
set_option maxRecDepth 20000 in
theorem k_ml_J0_335 : Cond.methodLink RJ0 335 yJ0_coder_7d493 ∈ iv_W0 := k_c3 (List.mem_of_getElem? (i := 213) rfl) rfl
set_option maxRecDepth 20000 in
theorem k_ml_J0_492 : Cond.methodLink RJ0 492 yJ0_isLatin1_aae02 ∈ iv_W0 := k_c3 (List.mem_of_getElem? (i := 223) rfl) rfl
set_option maxRecDepth 20000 in
theorem k_ml_J0_495 : Cond.methodLink RJ0 495 yJ1_charAt_3b067 ∈ iv_W0 := k_c3 (List.mem_of_getElem? (i := 227) rfl) rfl
set_option maxRecDepth 20000 in
theorem k_ml_J0_498 : Cond.methodLink RJ0 498 yJ2_charAt_3b067 ∈ iv_W0 := k_c3 (List.mem_of_getElem? (i := 238) rfl) rfl
set_option maxRecDepth 20000 in
theorem k_ml_J0_505 : Cond.methodLink RJ0 505 yJ0_length_8abf5 ∈ iv_W0 := k_c4 (List.mem_of_getElem? (i := 26) rfl) rfl
set_option maxRecDepth 20000 in
theorem k_ml_J0_633 : Cond.methodLink RJ0 633 yJ0_indexOf_7cf53 ∈ iv_W0 := k_c4 (List.mem_of_getElem? (i := 22) rfl) rfl
set_option maxRecDepth 20000 in
theorem k_ml_J0_637 : Cond.methodLink RJ0 637 yJ1_indexOf_4cfef ∈ iv_W0 := k_c4 (List.mem_of_getElem? (i := 27) rfl) rfl
set_option maxRecDepth 20000 in
theorem k_ml_J0_640 : Cond.methodLink RJ0 640 yJ2_indexOf_4cfef ∈ iv_W0 := k_c4 (List.mem_of_getElem? (i := 38) rfl) rfl
set_option maxRecDepth 20000 in
theorem k_ml_J1_38 : Cond.methodLink RJ1 38 yJ9_min_7cf53 ∈ iv_W0 := k_c4 (List.mem_of_getElem? (i := 34) rfl) rfl
set_option maxRecDepth 20000 in
theorem k_ml_J1_88 : Cond.methodLink RJ1 88 yJ1_canEncode_9a6ad ∈ iv_W0 := k_c4 (List.mem_of_getElem? (i := 30) rfl) rfl
set_option maxRecDepth 20000 in
theorem k_ml_J1_9 : Cond.methodLink RJ1 9 yJ0_checkIndex_df160 ∈ iv_W0 := k_c3 (List.mem_of_getElem? (i := 230) rfl) rfl
set_option maxRecDepth 20000 in
theorem k_ml_J1_92 : Cond.methodLink RJ1 92 yJ9_max_7cf53 ∈ iv_W0 := k_c4 (List.mem_of_getElem? (i := 33) rfl) rfl
set_option maxRecDepth 20000 in
theorem k_ml_J1_95 : Cond.methodLink RJ1 95 yJ1_indexOfChar_4cfef ∈ iv_W0 := k_c4 (List.mem_of_getElem? (i := 35) rfl) rfl
set_option maxRecDepth 20000 in
theorem k_ml_J2_157 : Cond.methodLink RJ2 157 yJ11_highSurrogate_5068e ∈ iv_W0 := k_c4 (List.mem_of_getElem? (i := 65) rfl) rfl
set_option maxRecDepth 20000 in
theorem k_ml_J2_161 : Cond.methodLink RJ2 161 yJ11_lowSurrogate_5068e ∈ iv_W0 := k_c4 (List.mem_of_getElem? (i := 69) rfl) rfl
set_option maxRecDepth 20000 in
theorem k_ml_J2_164 : Cond.methodLink RJ2 164 yJ11_isValidCodePoint_9a6ad ∈ iv_W0 := k_c4 (List.mem_of_getElem? (i := 62) rfl) rfl
set_option maxRecDepth 20000 in
theorem k_ml_J2_183 : Cond.methodLink RJ2 183 yJ9_min_7cf53 ∈ iv_W0 := k_c4 (List.mem_of_getElem? (i := 42) rfl) rfl
set_option maxRecDepth 20000 in
theorem k_ml_J2_224 : Cond.methodLink RJ2 224 yJ9_max_7cf53 ∈ iv_W0 := k_c4 (List.mem_of_getElem? (i := 41) rfl) rfl
set_option maxRecDepth 20000 in
theorem k_ml_J2_228 : Cond.methodLink RJ2 228 yJ2_indexOfChar_4cfef ∈ iv_W0 := k_c4 (List.mem_of_getElem? (i := 44) rfl) rfl
set_option maxRecDepth 20000 in
theorem k_ml_J2_232 : Cond.methodLink RJ2 232 yJ2_indexOfSupplementary_4cfef ∈ iv_W0 := k_c4 (List.mem_of_getElem? (i := 59) rfl) rfl
set_option maxRecDepth 20000 in
theorem k_ml_J2_241 : Cond.methodLink RJ2 241 yJ0_checkBoundsBeginEnd_23922 ∈ iv_W0 := k_c4 (List.mem_of_getElem? (i := 50) rfl) rfl
set_option maxRecDepth 20000 in
theorem k_ml_J2_244 : Cond.methodLink RJ2 244 yJ2_indexOfCharUnsafe_4cfef ∈ iv_W0 := k_c4 (List.mem_of_getElem? (i := 56) rfl) rfl
set_option maxRecDepth 20000 in
theorem k_ml_J2_414 : Cond.methodLink RJ2 414 yJ0_checkIndex_df160 ∈ iv_W0 := k_c4 (List.mem_of_getElem? (i := 7) rfl) rfl
set_option maxRecDepth 20000 in
theorem k_ml_J2_48 : Cond.methodLink RJ2 48 yJ2_length_9d52b ∈ iv_W0 := k_c4 (List.mem_of_getElem? (i := 4) rfl) rfl
set_option maxRecDepth 20000 in
theorem k_ml_J2_67 : Cond.methodLink RJ2 67 yJ2_checkIndex_2214a ∈ iv_W0 := k_c4 (List.mem_of_getElem? (i := 1) rfl) rfl
set_option maxRecDepth 20000 in
theorem k_ml_J2_71 : Cond.methodLink RJ2 71 yJ2_getChar_3b067 ∈ iv_W0 := k_c4 (List.mem_of_getElem? (i := 8) rfl) rfl
set_option maxRecDepth 20000 in
theorem k_ml_J2_96 : Cond.methodLink RJ2 96 yJ2_checkBoundsBeginEnd_d044e ∈ iv_W0 := k_c4 (List.mem_of_getElem? (i := 47) rfl) rfl
set_option maxRecDepth 20000 in
theorem k_ml_J7_304 : Cond.methodLink RJ7 304 yJ9_min_7cf53 ∈ iv_W0 := k_c1 (List.mem_of_getElem? (i := 78) rfl) rfl
set_option maxRecDepth 20000 in
theorem k_sel_X0_passDay : Cond.selects yX0_passDay.cls yX0_passDay yX0_passDay ∈ iv_W0 := k_c3 (List.mem_of_getElem? (i := 61) rfl) rfl
set_option maxRecDepth 20000 in
theorem k_sel_X1_become : Cond.selects yX1_become.cls yX1_become yX1_become ∈ iv_W0 := k_c5 (List.mem_of_getElem? (i := 229) rfl) rfl
set_option maxRecDepth 20000 in
theorem k_sel_X1_begin : Cond.selects yX1_begin.cls yX1_begin yX1_begin ∈ iv_W0 := k_c2 (List.mem_of_getElem? (i := 236) rfl) rfl
set_option maxRecDepth 20000 in
theorem k_sel_X2_calledTo : Cond.selects yX2_calledTo.cls yX2_calledTo yX2_calledTo ∈ iv_W0 := k_c3 (List.mem_of_getElem? (i := 137) rfl) rfl
set_option maxRecDepth 20000 in
theorem k_sel_X2_clearHours : Cond.selects yX2_clearHours.cls yX2_clearHours yX2_clearHours ∈ iv_W0 := k_c3 (List.mem_of_getElem? (i := 75) rfl) rfl
set_option maxRecDepth 20000 in
theorem k_sel_X2_comingOf : Cond.selects yX2_comingOf.cls yX2_comingOf yX2_comingOf ∈ iv_W0 := k_c3 (List.mem_of_getElem? (i := 70) rfl) rfl
set_option maxRecDepth 20000 in
theorem k_sel_X2_doQuarrel : Cond.selects yX2_doQuarrel.cls yX2_doQuarrel yX2_doQuarrel ∈ iv_W0 := k_c5 (List.mem_of_getElem? (i := 2) rfl) rfl
set_option maxRecDepth 20000 in
theorem k_sel_X2_heardBells : Cond.selects yX2_heardBells.cls yX2_heardBells yX2_heardBells ∈ iv_W0 := k_c4 (List.mem_of_getElem? (i := 195) rfl) rfl
set_option maxRecDepth 20000 in
theorem k_sel_X2_loudAt : Cond.selects yX2_loudAt.cls yX2_loudAt yX2_loudAt ∈ iv_W0 := k_c3 (List.mem_of_getElem? (i := 150) rfl) rfl
set_option maxRecDepth 20000 in
theorem k_sel_X3_answer : Cond.selects yX3_answer.cls yX3_answer yX3_answer ∈ iv_W0 := k_c3 (List.mem_of_getElem? (i := 103) rfl) rfl
set_option maxRecDepth 20000 in
theorem k_sel_X4_countPeals : Cond.selects yX4_countPeals.cls yX4_countPeals yX4_countPeals ∈ iv_W0 := k_c5 (List.mem_of_getElem? (i := 114) rfl) rfl
set_option maxRecDepth 20000 in
theorem k_sel_X4_hourOf : Cond.selects yX4_hourOf.cls yX4_hourOf yX4_hourOf ∈ iv_W0 := k_c5 (List.mem_of_getElem? (i := 45) rfl) rfl
set_option maxRecDepth 20000 in
theorem k_sel_X4_inFirstPeal : Cond.selects yX4_inFirstPeal.cls yX4_inFirstPeal yX4_inFirstPeal ∈ iv_W0 := k_c5 (List.mem_of_getElem? (i := 130) rfl) rfl
set_option maxRecDepth 20000 in
theorem k_sel_X4_seatAll : Cond.selects yX4_seatAll.cls yX4_seatAll yX4_seatAll ∈ iv_W0 := k_c5 (List.mem_of_getElem? (i := 32) rfl) rfl
set_option maxRecDepth 20000 in
theorem k_sel_X5_areNear : Cond.selects yX5_areNear.cls yX5_areNear yX5_areNear ∈ iv_W0 := k_c3 (List.mem_of_getElem? (i := 79) rfl) rfl
set_option maxRecDepth 20000 in
theorem k_sel_X5_areOctaves : Cond.selects yX5_areOctaves.cls yX5_areOctaves yX5_areOctaves ∈ iv_W0 := k_c3 (List.mem_of_getElem? (i := 146) rfl) rfl
set_option maxRecDepth 20000 in
theorem k_sel_X5_bellsWithLineAt : Cond.selects yX5_bellsWithLineAt.cls yX5_bellsWithLineAt yX5_bellsWithLineAt ∈ iv_W0 := k_c5 (List.mem_of_getElem? (i := 198) rfl) rfl
set_option maxRecDepth 20000 in
theorem k_sel_X5_copyFrom : Cond.selects yX5_copyFrom.cls yX5_copyFrom yX5_copyFrom ∈ iv_W0 := k_c5 (List.mem_of_getElem? (i := 225) rfl) rfl
set_option maxRecDepth 20000 in
theorem k_sel_X5_distance : Cond.selects yX5_distance.cls yX5_distance yX5_distance ∈ iv_W0 := k_c3 (List.mem_of_getElem? (i := 90) rfl) rfl
set_option maxRecDepth 20000 in
theorem k_sel_X5_draw : Cond.selects yX5_draw.cls yX5_draw yX5_draw ∈ iv_W0 := k_c3 (List.mem_of_getElem? (i := 123) rfl) rfl
set_option maxRecDepth 20000 in
theorem k_sel_X5_hasBell : Cond.selects yX5_hasBell.cls yX5_hasBell yX5_hasBell ∈ iv_W0 := k_c3 (List.mem_of_getElem? (i := 8) rfl) rfl
set_option maxRecDepth 20000 in
theorem k_sel_X5_howManySound : Cond.selects yX5_howManySound.cls yX5_howManySound yX5_howManySound ∈ iv_W0 := k_c4 (List.mem_of_getElem? (i := 207) rfl) rfl
set_option maxRecDepth 20000 in
theorem k_sel_X5_isRung : Cond.selects yX5_isRung.cls yX5_isRung yX5_isRung ∈ iv_W0 := k_c4 (List.mem_of_getElem? (i := 229) rfl) rfl
set_option maxRecDepth 20000 in
theorem k_sel_X5_isSetOfBells : Cond.selects yX5_isSetOfBells.cls yX5_isSetOfBells yX5_isSetOfBells ∈ iv_W0 := k_c5 (List.mem_of_getElem? (i := 92) rfl) rfl
set_option maxRecDepth 20000 in
theorem k_sel_X5_silentFrom : Cond.selects yX5_silentFrom.cls yX5_silentFrom yX5_silentFrom ∈ iv_W0 := k_c4 (List.mem_of_getElem? (i := 203) rfl) rfl
set_option maxRecDepth 20000 in
theorem k_sel_X5_soundsAt : Cond.selects yX5_soundsAt.cls yX5_soundsAt yX5_soundsAt ∈ iv_W0 := k_c3 (List.mem_of_getElem? (i := 141) rfl) rfl
set_option maxRecDepth 20000 in
theorem k_sel_X5_soundsIn : Cond.selects yX5_soundsIn.cls yX5_soundsIn yX5_soundsIn ∈ iv_W0 := k_c3 (List.mem_of_getElem? (i := 65) rfl) rfl
set_option maxRecDepth 20000 in
theorem k_sel_X6_forget : Cond.selects yX6_forget.cls yX6_forget yX6_forget ∈ iv_W0 := k_c2 (List.mem_of_getElem? (i := 218) rfl) rfl
set_option maxRecDepth 20000 in
theorem k_sel_X6_giveBack : Cond.selects yX6_giveBack.cls yX6_giveBack yX6_giveBack ∈ iv_W0 := k_c5 (List.mem_of_getElem? (i := 215) rfl) rfl
set_option maxRecDepth 20000 in
theorem k_sel_X6_keep : Cond.selects yX6_keep.cls yX6_keep yX6_keep ∈ iv_W0 := k_c3 (List.mem_of_getElem? (i := 20) rfl) rfl
set_option maxRecDepth 20000 in
theorem k_sel_X7_forgetFault : Cond.selects yX7_forgetFault.cls yX7_forgetFault yX7_forgetFault ∈ iv_W0 := k_c3 (List.mem_of_getElem? (i := 176) rfl) rfl
set_option maxRecDepth 20000 in
theorem k_sel_X7_readHours : Cond.selects yX7_readHours.cls yX7_readHours yX7_readHours ∈ iv_W0 := k_c3 (List.mem_of_getElem? (i := 180) rfl) rfl
set_option maxRecDepth 20000 in
theorem k_sel_X7_readLaw : Cond.selects yX7_readLaw.cls yX7_readLaw yX7_readLaw ∈ iv_W0 := k_c4 (List.mem_of_getElem? (i := 103) rfl) rfl
set_option maxRecDepth 20000 in
theorem k_sel_X8_add : Cond.selects yX8_add.cls yX8_add yX8_add ∈ iv_W0 := k_c3 (List.mem_of_getElem? (i := 34) rfl) rfl
set_option maxRecDepth 20000 in
theorem k_sel_X8_at : Cond.selects yX8_at.cls yX8_at yX8_at ∈ iv_W0 := k_c3 (List.mem_of_getElem? (i := 25) rfl) rfl
set_option maxRecDepth 20000 in
theorem k_sel_X8_become : Cond.selects yX8_become.cls yX8_become yX8_become ∈ iv_W0 := k_c5 (List.mem_of_getElem? (i := 235) rfl) rfl
set_option maxRecDepth 20000 in
theorem k_sel_X8_change : Cond.selects yX8_change.cls yX8_change yX8_change ∈ iv_W0 := k_c3 (List.mem_of_getElem? (i := 42) rfl) rfl
set_option maxRecDepth 20000 in
theorem k_sel_X8_cut : Cond.selects yX8_cut.cls yX8_cut yX8_cut ∈ iv_W0 := k_c5 (List.mem_of_getElem? (i := 177) rfl) rfl
set_option maxRecDepth 20000 in
theorem k_sel_X8_has : Cond.selects yX8_has.cls yX8_has yX8_has ∈ iv_W0 := k_c3 (List.mem_of_getElem? (i := 29) rfl) rfl
set_option maxRecDepth 20000 in
theorem k_sel_X8_isFull : Cond.selects yX8_isFull.cls yX8_isFull yX8_isFull ∈ iv_W0 := k_c3 (List.mem_of_getElem? (i := 38) rfl) rfl
set_option maxRecDepth 20000 in
theorem k_sel_X9_canRaise : Cond.selects yX9_canRaise.cls yX9_canRaise yX9_canRaise ∈ iv_W0 := k_c5 (List.mem_of_getElem? (i := 96) rfl) rfl
set_option maxRecDepth 20000 in
theorem k_sel_X9_fitting : Cond.selects yX9_fitting.cls yX9_fitting yX9_fitting ∈ iv_W0 := k_c5 (List.mem_of_getElem? (i := 186) rfl) rfl
set_option maxRecDepth 20000 in
theorem k_sel_X9_hopeOf : Cond.selects yX9_hopeOf.cls yX9_hopeOf yX9_hopeOf ∈ iv_W0 := k_c5 (List.mem_of_getElem? (i := 70) rfl) rfl
set_option maxRecDepth 20000 in
theorem k_sel_X9_leastHarm : Cond.selects yX9_leastHarm.cls yX9_leastHarm yX9_leastHarm ∈ iv_W0 := k_c5 (List.mem_of_getElem? (i := 54) rfl) rfl
set_option maxRecDepth 20000 in
theorem k_sel_X9_rightThen : Cond.selects yX9_rightThen.cls yX9_rightThen yX9_rightThen ∈ iv_W0 := k_c5 (List.mem_of_getElem? (i := 168) rfl) rfl
set_option maxRecDepth 20000 in
theorem k_sel_X9_rowFrom : Cond.selects yX9_rowFrom.cls yX9_rowFrom yX9_rowFrom ∈ iv_W0 := k_c5 (List.mem_of_getElem? (i := 80) rfl) rfl
set_option maxRecDepth 20000 in
theorem k_sel_X9_swapsToRight : Cond.selects yX9_swapsToRight.cls yX9_swapsToRight yX9_swapsToRight ∈ iv_W0 := k_c5 (List.mem_of_getElem? (i := 160) rfl) rfl
set_option maxRecDepth 20000 in
theorem k_sel_X9_wrongNow : Cond.selects yX9_wrongNow.cls yX9_wrongNow yX9_wrongNow ∈ iv_W0 := k_c5 (List.mem_of_getElem? (i := 142) rfl) rfl
set_option maxRecDepth 20000 in
theorem k_sel_X10_read : Cond.selects yX10_read.cls yX10_read yX10_read ∈ iv_W0 := k_c3 (List.mem_of_getElem? (i := 188) rfl) rfl
set_option maxRecDepth 20000 in
theorem k_sel_X11_ask : Cond.selects yX11_ask.cls yX11_ask yX11_ask ∈ iv_W0 := k_c5 (List.mem_of_getElem? (i := 194) rfl) rfl
set_option maxRecDepth 20000 in
theorem k_sel_X11_astray : Cond.selects yX11_astray.cls yX11_astray yX11_astray ∈ iv_W0 := k_c4 (List.mem_of_getElem? (i := 177) rfl) rfl
set_option maxRecDepth 20000 in
theorem k_sel_X11_bell : Cond.selects yX11_bell.cls yX11_bell yX11_bell ∈ iv_W0 := k_c2 (List.mem_of_getElem? (i := 232) rfl) rfl
set_option maxRecDepth 20000 in
theorem k_sel_X11_book : Cond.selects yX11_book.cls yX11_book yX11_book ∈ iv_W0 := k_c4 (List.mem_of_getElem? (i := 187) rfl) rfl
set_option maxRecDepth 20000 in
theorem k_sel_X11_child : Cond.selects yX11_child.cls yX11_child yX11_child ∈ iv_W0 := k_c4 (List.mem_of_getElem? (i := 183) rfl) rfl
set_option maxRecDepth 20000 in
theorem k_sel_X11_chorus : Cond.selects yX11_chorus.cls yX11_chorus yX11_chorus ∈ iv_W0 := k_c4 (List.mem_of_getElem? (i := 220) rfl) rfl
set_option maxRecDepth 20000 in
theorem k_sel_X11_days : Cond.selects yX11_days.cls yX11_days yX11_days ∈ iv_W0 := k_c3 (List.mem_of_getElem? (i := 57) rfl) rfl
set_option maxRecDepth 20000 in
theorem k_sel_X11_eldest : Cond.selects yX11_eldest.cls yX11_eldest yX11_eldest ∈ iv_W0 := k_c5 (List.mem_of_getElem? (i := 202) rfl) rfl
set_option maxRecDepth 20000 in
theorem k_sel_X11_end : Cond.selects yX11_end.cls yX11_end yX11_end ∈ iv_W0 := k_c3 (List.mem_of_getElem? (i := 168) rfl) rfl
set_option maxRecDepth 20000 in
theorem k_sel_X11_far : Cond.selects yX11_far.cls yX11_far yX11_far ∈ iv_W0 := k_c2 (List.mem_of_getElem? (i := 222) rfl) rfl
set_option maxRecDepth 20000 in
theorem k_sel_X11_fault : Cond.selects yX11_fault.cls yX11_fault yX11_fault ∈ iv_W0 := k_c4 (List.mem_of_getElem? (i := 158) rfl) rfl
set_option maxRecDepth 20000 in
theorem k_sel_X11_feed : Cond.selects yX11_feed.cls yX11_feed yX11_feed ∈ iv_W0 := k_c3 (List.mem_of_getElem? (i := 160) rfl) rfl
set_option maxRecDepth 20000 in
theorem k_sel_X11_fits : Cond.selects yX11_fits.cls yX11_fits yX11_fits ∈ iv_W0 := k_c5 (List.mem_of_getElem? (i := 182) rfl) rfl
set_option maxRecDepth 20000 in
theorem k_sel_X11_free : Cond.selects yX11_free.cls yX11_free yX11_free ∈ iv_W0 := k_c4 (List.mem_of_getElem? (i := 225) rfl) rfl
set_option maxRecDepth 20000 in
theorem k_sel_X11_heard : Cond.selects yX11_heard.cls yX11_heard yX11_heard ∈ iv_W0 := k_c4 (List.mem_of_getElem? (i := 191) rfl) rfl
set_option maxRecDepth 20000 in
theorem k_sel_X11_hopes : Cond.selects yX11_hopes.cls yX11_hopes yX11_hopes ∈ iv_W0 := k_c5 (List.mem_of_getElem? (i := 24) rfl) rfl
set_option maxRecDepth 20000 in
theorem k_sel_X11_image : Cond.selects yX11_image.cls yX11_image yX11_image ∈ iv_W0 := k_c5 (List.mem_of_getElem? (i := 221) rfl) rfl
set_option maxRecDepth 20000 in
theorem k_sel_X11_late : Cond.selects yX11_late.cls yX11_late yX11_late ∈ iv_W0 := k_c5 (List.mem_of_getElem? (i := 15) rfl) rfl
set_option maxRecDepth 20000 in
theorem k_sel_X11_likeliest : Cond.selects yX11_likeliest.cls yX11_likeliest yX11_likeliest ∈ iv_W0 := k_c5 (List.mem_of_getElem? (i := 6) rfl) rfl
set_option maxRecDepth 20000 in
theorem k_sel_X11_look : Cond.selects yX11_look.cls yX11_look yX11_look ∈ iv_W0 := k_c6 (List.mem_of_getElem? (i := 1) rfl) rfl
set_option maxRecDepth 20000 in
theorem k_sel_X11_loud : Cond.selects yX11_loud.cls yX11_loud yX11_loud ∈ iv_W0 := k_c4 (List.mem_of_getElem? (i := 169) rfl) rfl
set_option maxRecDepth 20000 in
theorem k_sel_X11_louder : Cond.selects yX11_louder.cls yX11_louder yX11_louder ∈ iv_W0 := k_c5 (List.mem_of_getElem? (i := 206) rfl) rfl
set_option maxRecDepth 20000 in
theorem k_sel_X11_melt : Cond.selects yX11_melt.cls yX11_melt yX11_melt ∈ iv_W0 := k_c3 (List.mem_of_getElem? (i := 16) rfl) rfl
set_option maxRecDepth 20000 in
theorem k_sel_X11_melts : Cond.selects yX11_melts.cls yX11_melts yX11_melts ∈ iv_W0 := k_c5 (List.mem_of_getElem? (i := 50) rfl) rfl
set_option maxRecDepth 20000 in
theorem k_sel_X11_muffle : Cond.selects yX11_muffle.cls yX11_muffle yX11_muffle ∈ iv_W0 := k_c3 (List.mem_of_getElem? (i := 46) rfl) rfl
set_option maxRecDepth 20000 in
theorem k_sel_X11_noneYet : Cond.selects yX11_noneYet.cls yX11_noneYet yX11_noneYet ∈ iv_W0 := k_c5 (List.mem_of_getElem? (i := 20) rfl) rfl
set_option maxRecDepth 20000 in
theorem k_sel_X11_octaves : Cond.selects yX11_octaves.cls yX11_octaves yX11_octaves ∈ iv_W0 := k_c5 (List.mem_of_getElem? (i := 105) rfl) rfl
set_option maxRecDepth 20000 in
theorem k_sel_X11_of : Cond.selects yX11_of.cls yX11_of yX11_of ∈ iv_W0 := k_c4 (List.mem_of_getElem? (i := 162) rfl) rfl
set_option maxRecDepth 20000 in
theorem k_sel_X11_peals : Cond.selects yX11_peals.cls yX11_peals yX11_peals ∈ iv_W0 := k_c5 (List.mem_of_getElem? (i := 110) rfl) rfl
set_option maxRecDepth 20000 in
theorem k_sel_X11_placed : Cond.selects yX11_placed.cls yX11_placed yX11_placed ∈ iv_W0 := k_c4 (List.mem_of_getElem? (i := 234) rfl) rfl
set_option maxRecDepth 20000 in
theorem k_sel_X11_quarrels : Cond.selects yX11_quarrels.cls yX11_quarrels yX11_quarrels ∈ iv_W0 := k_c4 (List.mem_of_getElem? (i := 238) rfl) rfl
set_option maxRecDepth 20000 in
theorem k_sel_X11_raised : Cond.selects yX11_raised.cls yX11_raised yX11_raised ∈ iv_W0 := k_c5 (List.mem_of_getElem? (i := 88) rfl) rfl
set_option maxRecDepth 20000 in
theorem k_sel_X11_right : Cond.selects yX11_right.cls yX11_right yX11_right ∈ iv_W0 := k_c5 (List.mem_of_getElem? (i := 138) rfl) rfl
set_option maxRecDepth 20000 in
theorem k_sel_X11_ropes : Cond.selects yX11_ropes.cls yX11_ropes yX11_ropes ∈ iv_W0 := k_c4 (List.mem_of_getElem? (i := 215) rfl) rfl
set_option maxRecDepth 20000 in
theorem k_sel_X11_rows : Cond.selects yX11_rows.cls yX11_rows yX11_rows ∈ iv_W0 := k_c5 (List.mem_of_getElem? (i := 28) rfl) rfl
set_option maxRecDepth 20000 in
theorem k_sel_X11_set : Cond.selects yX11_set.cls yX11_set yX11_set ∈ iv_W0 := k_c3 (List.mem_of_getElem? (i := 0) rfl) rfl
set_option maxRecDepth 20000 in
theorem k_sel_X11_siblings : Cond.selects yX11_siblings.cls yX11_siblings yX11_siblings ∈ iv_W0 := k_c5 (List.mem_of_getElem? (i := 76) rfl) rfl
set_option maxRecDepth 20000 in
theorem k_sel_X11_silence : Cond.selects yX11_silence.cls yX11_silence yX11_silence ∈ iv_W0 := k_c4 (List.mem_of_getElem? (i := 199) rfl) rfl
set_option maxRecDepth 20000 in
theorem k_sel_X11_state : Cond.selects yX11_state.cls yX11_state yX11_state ∈ iv_W0 := k_c2 (List.mem_of_getElem? (i := 214) rfl) rfl
set_option maxRecDepth 20000 in
theorem k_sel_X11_stop : Cond.selects yX11_stop.cls yX11_stop yX11_stop ∈ iv_W0 := k_c5 (List.mem_of_getElem? (i := 10) rfl) rfl
set_option maxRecDepth 20000 in
theorem k_sel_X11_swap : Cond.selects yX11_swap.cls yX11_swap yX11_swap ∈ iv_W0 := k_c3 (List.mem_of_getElem? (i := 50) rfl) rfl
set_option maxRecDepth 20000 in
theorem k_sel_X11_text : Cond.selects yX11_text.cls yX11_text yX11_text ∈ iv_W0 := k_c3 (List.mem_of_getElem? (i := 172) rfl) rfl
set_option maxRecDepth 20000 in
theorem k_sel_X11_turn : Cond.selects yX11_turn.cls yX11_turn yX11_turn ∈ iv_W0 := k_c5 (List.mem_of_getElem? (i := 173) rfl) rfl
set_option maxRecDepth 20000 in
theorem k_sel_X11_undo : Cond.selects yX11_undo.cls yX11_undo yX11_undo ∈ iv_W0 := k_c5 (List.mem_of_getElem? (i := 211) rfl) rfl
set_option maxRecDepth 20000 in
theorem k_sel_X12_ask : Cond.selects yX12_ask.cls yX12_ask yX12_ask ∈ iv_W0 := k_c8 (List.mem_of_getElem? (i := 148) rfl) rfl
set_option maxRecDepth 20000 in
theorem k_sel_X12_astray : Cond.selects yX12_astray.cls yX12_astray yX12_astray ∈ iv_W0 := k_c7 (List.mem_of_getElem? (i := 218) rfl) rfl
set_option maxRecDepth 20000 in
theorem k_sel_X12_bell : Cond.selects yX12_bell.cls yX12_bell yX12_bell ∈ iv_W0 := k_c6 (List.mem_of_getElem? (i := 126) rfl) rfl
set_option maxRecDepth 20000 in
theorem k_sel_X12_book : Cond.selects yX12_book.cls yX12_book yX12_book ∈ iv_W0 := k_c7 (List.mem_of_getElem? (i := 226) rfl) rfl
set_option maxRecDepth 20000 in
theorem k_sel_X12_child : Cond.selects yX12_child.cls yX12_child yX12_child ∈ iv_W0 := k_c7 (List.mem_of_getElem? (i := 222) rfl) rfl
set_option maxRecDepth 20000 in
theorem k_sel_X12_chorus : Cond.selects yX12_chorus.cls yX12_chorus yX12_chorus ∈ iv_W0 := k_c8 (List.mem_of_getElem? (i := 14) rfl) rfl
set_option maxRecDepth 20000 in
theorem k_sel_X12_days : Cond.selects yX12_days.cls yX12_days yX12_days ∈ iv_W0 := k_c7 (List.mem_of_getElem? (i := 95) rfl) rfl
set_option maxRecDepth 20000 in
theorem k_sel_X12_eldest : Cond.selects yX12_eldest.cls yX12_eldest yX12_eldest ∈ iv_W0 := k_c8 (List.mem_of_getElem? (i := 23) rfl) rfl
set_option maxRecDepth 20000 in
theorem k_sel_X12_end : Cond.selects yX12_end.cls yX12_end yX12_end ∈ iv_W0 := k_c6 (List.mem_of_getElem? (i := 150) rfl) rfl
set_option maxRecDepth 20000 in
theorem k_sel_X12_far : Cond.selects yX12_far.cls yX12_far yX12_far ∈ iv_W0 := k_c6 (List.mem_of_getElem? (i := 116) rfl) rfl
set_option maxRecDepth 20000 in
theorem k_sel_X12_fault : Cond.selects yX12_fault.cls yX12_fault yX12_fault ∈ iv_W0 := k_c7 (List.mem_of_getElem? (i := 51) rfl) rfl
set_option maxRecDepth 20000 in
theorem k_sel_X12_feed : Cond.selects yX12_feed.cls yX12_feed yX12_feed ∈ iv_W0 := k_c6 (List.mem_of_getElem? (i := 146) rfl) rfl
set_option maxRecDepth 20000 in
theorem k_sel_X12_fits : Cond.selects yX12_fits.cls yX12_fits yX12_fits ∈ iv_W0 := k_c8 (List.mem_of_getElem? (i := 136) rfl) rfl
set_option maxRecDepth 20000 in
theorem k_sel_X12_free : Cond.selects yX12_free.cls yX12_free yX12_free ∈ iv_W0 := k_c8 (List.mem_of_getElem? (i := 27) rfl) rfl
set_option maxRecDepth 20000 in
theorem k_sel_X12_heard : Cond.selects yX12_heard.cls yX12_heard yX12_heard ∈ iv_W0 := k_c7 (List.mem_of_getElem? (i := 230) rfl) rfl
set_option maxRecDepth 20000 in
theorem k_sel_X12_hopes : Cond.selects yX12_hopes.cls yX12_hopes yX12_hopes ∈ iv_W0 := k_c8 (List.mem_of_getElem? (i := 160) rfl) rfl
set_option maxRecDepth 20000 in
theorem k_sel_X12_image : Cond.selects yX12_image.cls yX12_image yX12_image ∈ iv_W0 := k_c8 (List.mem_of_getElem? (i := 187) rfl) rfl
set_option maxRecDepth 20000 in
theorem k_sel_X12_late : Cond.selects yX12_late.cls yX12_late yX12_late ∈ iv_W0 := k_c8 (List.mem_of_getElem? (i := 164) rfl) rfl
set_option maxRecDepth 20000 in
theorem k_sel_X12_likeliest : Cond.selects yX12_likeliest.cls yX12_likeliest yX12_likeliest ∈ iv_W0 := k_c8 (List.mem_of_getElem? (i := 51) rfl) rfl
set_option maxRecDepth 20000 in
theorem k_sel_X12_look : Cond.selects yX12_look.cls yX12_look yX12_look ∈ iv_W0 := k_c8 (List.mem_of_getElem? (i := 191) rfl) rfl
set_option maxRecDepth 20000 in
theorem k_sel_X12_loud : Cond.selects yX12_loud.cls yX12_loud yX12_loud ∈ iv_W0 := k_c7 (List.mem_of_getElem? (i := 211) rfl) rfl
set_option maxRecDepth 20000 in
theorem k_sel_X12_louder : Cond.selects yX12_louder.cls yX12_louder yX12_louder ∈ iv_W0 := k_c8 (List.mem_of_getElem? (i := 168) rfl) rfl
set_option maxRecDepth 20000 in
theorem k_sel_X12_melt : Cond.selects yX12_melt.cls yX12_melt yX12_melt ∈ iv_W0 := k_c7 (List.mem_of_getElem? (i := 59) rfl) rfl
set_option maxRecDepth 20000 in
theorem k_sel_X12_melts : Cond.selects yX12_melts.cls yX12_melts yX12_melts ∈ iv_W0 := k_c8 (List.mem_of_getElem? (i := 80) rfl) rfl
set_option maxRecDepth 20000 in
theorem k_sel_X12_muffle : Cond.selects yX12_muffle.cls yX12_muffle yX12_muffle ∈ iv_W0 := k_c7 (List.mem_of_getElem? (i := 75) rfl) rfl
set_option maxRecDepth 20000 in
theorem k_sel_X12_noneYet : Cond.selects yX12_noneYet.cls yX12_noneYet yX12_noneYet ∈ iv_W0 := k_c8 (List.mem_of_getElem? (i := 55) rfl) rfl
set_option maxRecDepth 20000 in
theorem k_sel_X12_octaves : Cond.selects yX12_octaves.cls yX12_octaves yX12_octaves ∈ iv_W0 := k_c8 (List.mem_of_getElem? (i := 19) rfl) rfl
set_option maxRecDepth 20000 in
theorem k_sel_X12_of : Cond.selects yX12_of.cls yX12_of yX12_of ∈ iv_W0 := k_c7 (List.mem_of_getElem? (i := 207) rfl) rfl
set_option maxRecDepth 20000 in
theorem k_sel_X12_peals : Cond.selects yX12_peals.cls yX12_peals yX12_peals ∈ iv_W0 := k_c8 (List.mem_of_getElem? (i := 175) rfl) rfl
set_option maxRecDepth 20000 in
theorem k_sel_X12_placed : Cond.selects yX12_placed.cls yX12_placed yX12_placed ∈ iv_W0 := k_c8 (List.mem_of_getElem? (i := 39) rfl) rfl
set_option maxRecDepth 20000 in
theorem k_sel_X12_quarrels : Cond.selects yX12_quarrels.cls yX12_quarrels yX12_quarrels ∈ iv_W0 := k_c8 (List.mem_of_getElem? (i := 43) rfl) rfl
set_option maxRecDepth 20000 in
theorem k_sel_X12_raised : Cond.selects yX12_raised.cls yX12_raised yX12_raised ∈ iv_W0 := k_c8 (List.mem_of_getElem? (i := 60) rfl) rfl
set_option maxRecDepth 20000 in
theorem k_sel_X12_right : Cond.selects yX12_right.cls yX12_right yX12_right ∈ iv_W0 := k_c8 (List.mem_of_getElem? (i := 104) rfl) rfl
set_option maxRecDepth 20000 in
theorem k_sel_X12_ropes : Cond.selects yX12_ropes.cls yX12_ropes yX12_ropes ∈ iv_W0 := k_c8 (List.mem_of_getElem? (i := 6) rfl) rfl
set_option maxRecDepth 20000 in
theorem k_sel_X12_rows : Cond.selects yX12_rows.cls yX12_rows yX12_rows ∈ iv_W0 := k_c8 (List.mem_of_getElem? (i := 68) rfl) rfl
set_option maxRecDepth 20000 in
theorem k_sel_X12_set : Cond.selects yX12_set.cls yX12_set yX12_set ∈ iv_W0 := k_c6 (List.mem_of_getElem? (i := 134) rfl) rfl
set_option maxRecDepth 20000 in
theorem k_sel_X12_siblings : Cond.selects yX12_siblings.cls yX12_siblings yX12_siblings ∈ iv_W0 := k_c8 (List.mem_of_getElem? (i := 96) rfl) rfl
set_option maxRecDepth 20000 in
theorem k_sel_X12_silence : Cond.selects yX12_silence.cls yX12_silence yX12_silence ∈ iv_W0 := k_c7 (List.mem_of_getElem? (i := 234) rfl) rfl
set_option maxRecDepth 20000 in
theorem k_sel_X12_state : Cond.selects yX12_state.cls yX12_state yX12_state ∈ iv_W0 := k_c6 (List.mem_of_getElem? (i := 108) rfl) rfl
set_option maxRecDepth 20000 in
theorem k_sel_X12_stop : Cond.selects yX12_stop.cls yX12_stop yX12_stop ∈ iv_W0 := k_c8 (List.mem_of_getElem? (i := 156) rfl) rfl
set_option maxRecDepth 20000 in
theorem k_sel_X12_swap : Cond.selects yX12_swap.cls yX12_swap yX12_swap ∈ iv_W0 := k_c7 (List.mem_of_getElem? (i := 79) rfl) rfl
set_option maxRecDepth 20000 in
theorem k_sel_X12_text : Cond.selects yX12_text.cls yX12_text yX12_text ∈ iv_W0 := k_c6 (List.mem_of_getElem? (i := 154) rfl) rfl
set_option maxRecDepth 20000 in
theorem k_sel_X12_turn : Cond.selects yX12_turn.cls yX12_turn yX12_turn ∈ iv_W0 := k_c8 (List.mem_of_getElem? (i := 132) rfl) rfl
set_option maxRecDepth 20000 in
theorem k_sel_X12_undo : Cond.selects yX12_undo.cls yX12_undo yX12_undo ∈ iv_W0 := k_c7 (List.mem_of_getElem? (i := 55) rfl) rfl
set_option maxRecDepth 20000 in
theorem k_sel_J0_charAt_5068e : Cond.selects yJ0_charAt_5068e.cls yJ0_charAt_5068e yJ0_charAt_5068e ∈ iv_W0 := k_c3 (List.mem_of_getElem? (i := 221) rfl) rfl
set_option maxRecDepth 20000 in
theorem k_sel_J0_coder_7d493 : Cond.selects yJ0_coder_7d493.cls yJ0_coder_7d493 yJ0_coder_7d493 ∈ iv_W0 := k_c3 (List.mem_of_getElem? (i := 215) rfl) rfl
set_option maxRecDepth 20000 in
theorem k_sel_J0_indexOf_0f7a4 : Cond.selects yJ0_indexOf_0f7a4.cls yJ0_indexOf_0f7a4 yJ0_indexOf_0f7a4 ∈ iv_W0 := k_c4 (List.mem_of_getElem? (i := 20) rfl) rfl
set_option maxRecDepth 20000 in
theorem k_sel_J0_indexOf_7cf53 : Cond.selects yJ0_indexOf_7cf53.cls yJ0_indexOf_7cf53 yJ0_indexOf_7cf53 ∈ iv_W0 := k_c4 (List.mem_of_getElem? (i := 24) rfl) rfl
set_option maxRecDepth 20000 in
theorem k_sel_J0_isLatin1_aae02 : Cond.selects yJ0_isLatin1_aae02.cls yJ0_isLatin1_aae02 yJ0_isLatin1_aae02 ∈ iv_W0 := k_c3 (List.mem_of_getElem? (i := 225) rfl) rfl
set_option maxRecDepth 20000 in
theorem k_sel_J0_length_8abf5 : Cond.selects yJ0_length_8abf5.cls yJ0_length_8abf5 yJ0_length_8abf5 ∈ iv_W0 := k_c3 (List.mem_of_getElem? (i := 211) rfl) rfl
set_option maxRecDepth 20000 in
theorem k_st_X0_firstHour : Cond.static yX0_firstHour ∈ iv_W0 := k_c3 (List.mem_of_getElem? (i := 133) rfl) rfl
set_option maxRecDepth 20000 in
theorem k_st_X3_withoutLines : Cond.static yX3_withoutLines ∈ iv_W0 := k_c1 (List.mem_of_getElem? (i := 60) rfl) rfl
set_option maxRecDepth 20000 in
theorem k_st_X4_canSit : Cond.static yX4_canSit ∈ iv_W0 := k_c5 (List.mem_of_getElem? (i := 39) rfl) rfl
set_option maxRecDepth 20000 in
theorem k_st_X4_seatFrom : Cond.static yX4_seatFrom ∈ iv_W0 := k_c5 (List.mem_of_getElem? (i := 35) rfl) rfl
set_option maxRecDepth 20000 in
theorem k_st_X7_isSignOfSums : Cond.static yX7_isSignOfSums ∈ iv_W0 := k_c4 (List.mem_of_getElem? (i := 122) rfl) rfl
set_option maxRecDepth 20000 in
theorem k_st_X10_behindToken : Cond.static yX10_behindToken ∈ iv_W0 := k_c3 (List.mem_of_getElem? (i := 200) rfl) rfl
set_option maxRecDepth 20000 in
theorem k_st_X10_goesOn : Cond.static yX10_goesOn ∈ iv_W0 := k_c3 (List.mem_of_getElem? (i := 191) rfl) rfl
set_option maxRecDepth 20000 in
theorem k_st_X10_isDigit : Cond.static yX10_isDigit ∈ iv_W0 := k_c3 (List.mem_of_getElem? (i := 197) rfl) rfl
set_option maxRecDepth 20000 in
theorem k_st_X10_isLetter : Cond.static yX10_isLetter ∈ iv_W0 := k_c3 (List.mem_of_getElem? (i := 194) rfl) rfl
set_option maxRecDepth 20000 in
theorem k_st_X10_kindOf : Cond.static yX10_kindOf ∈ iv_W0 := k_c3 (List.mem_of_getElem? (i := 203) rfl) rfl
set_option maxRecDepth 20000 in
theorem k_st_X10_numberOf : Cond.static yX10_numberOf ∈ iv_W0 := k_c4 (List.mem_of_getElem? (i := 74) rfl) rfl
set_option maxRecDepth 20000 in
theorem k_st_X10_wordOf : Cond.static yX10_wordOf ∈ iv_W0 := k_c3 (List.mem_of_getElem? (i := 206) rfl) rfl
set_option maxRecDepth 20000 in
theorem k_st_X11_chosen : Cond.static yX11_chosen ∈ iv_W0 := k_c4 (List.mem_of_getElem? (i := 211) rfl) rfl
set_option maxRecDepth 20000 in
theorem k_st_X11_isHour : Cond.static yX11_isHour ∈ iv_W0 := k_c4 (List.mem_of_getElem? (i := 172) rfl) rfl
set_option maxRecDepth 20000 in
theorem k_st_X11_isTower : Cond.static yX11_isTower ∈ iv_W0 := k_c2 (List.mem_of_getElem? (i := 225) rfl) rfl
set_option maxRecDepth 20000 in
theorem k_st_X11_isWithin : Cond.static yX11_isWithin ∈ iv_W0 := k_c2 (List.mem_of_getElem? (i := 228) rfl) rfl
set_option maxRecDepth 20000 in
theorem k_st_X12_apart : Cond.static yX12_apart ∈ iv_W0 := k_c7 (List.mem_of_getElem? (i := 142) rfl) rfl
set_option maxRecDepth 20000 in
theorem k_st_X12_both : Cond.static yX12_both ∈ iv_W0 := k_c7 (List.mem_of_getElem? (i := 169) rfl) rfl
set_option maxRecDepth 20000 in
theorem k_st_X12_count : Cond.static yX12_count ∈ iv_W0 := k_c7 (List.mem_of_getElem? (i := 178) rfl) rfl
set_option maxRecDepth 20000 in
theorem k_st_X12_greater : Cond.static yX12_greater ∈ iv_W0 := k_c7 (List.mem_of_getElem? (i := 175) rfl) rfl
set_option maxRecDepth 20000 in
theorem k_st_X12_isDigit : Cond.static yX12_isDigit ∈ iv_W0 := k_c6 (List.mem_of_getElem? (i := 215) rfl) rfl
set_option maxRecDepth 20000 in
theorem k_st_X12_isHour : Cond.static yX12_isHour ∈ iv_W0 := k_c7 (List.mem_of_getElem? (i := 214) rfl) rfl
set_option maxRecDepth 20000 in
theorem k_st_X12_isIn : Cond.static yX12_isIn ∈ iv_W0 := k_c6 (List.mem_of_getElem? (i := 122) rfl) rfl
set_option maxRecDepth 20000 in
theorem k_st_X12_isLetter : Cond.static yX12_isLetter ∈ iv_W0 := k_c6 (List.mem_of_getElem? (i := 165) rfl) rfl
set_option maxRecDepth 20000 in
theorem k_st_X12_isTower : Cond.static yX12_isTower ∈ iv_W0 := k_c6 (List.mem_of_getElem? (i := 119) rfl) rfl
set_option maxRecDepth 20000 in
theorem k_st_X12_leastIn : Cond.static yX12_leastIn ∈ iv_W0 := k_c7 (List.mem_of_getElem? (i := 191) rfl) rfl
set_option maxRecDepth 20000 in
theorem k_st_X12_lesser : Cond.static yX12_lesser ∈ iv_W0 := k_c7 (List.mem_of_getElem? (i := 172) rfl) rfl
set_option maxRecDepth 20000 in
theorem k_st_X12_louderBy : Cond.static yX12_louderBy ∈ iv_W0 := k_c8 (List.mem_of_getElem? (i := 171) rfl) rfl
set_option maxRecDepth 20000 in
theorem k_st_J11_highSurrogate_5068e : Cond.static yJ11_highSurrogate_5068e ∈ iv_W0 := k_c4 (List.mem_of_getElem? (i := 66) rfl) rfl
set_option maxRecDepth 20000 in
theorem k_st_J11_isValidCodePoint_9a6ad : Cond.static yJ11_isValidCodePoint_9a6ad ∈ iv_W0 := k_c4 (List.mem_of_getElem? (i := 63) rfl) rfl
set_option maxRecDepth 20000 in
theorem k_st_J11_lowSurrogate_5068e : Cond.static yJ11_lowSurrogate_5068e ∈ iv_W0 := k_c4 (List.mem_of_getElem? (i := 70) rfl) rfl
set_option maxRecDepth 20000 in
theorem k_st_J6_bitCount_0f7a4 : Cond.static yJ6_bitCount_0f7a4 ∈ iv_W0 := k_c3 (List.mem_of_getElem? (i := 114) rfl) rfl
set_option maxRecDepth 20000 in
theorem k_st_J9_abs_0f7a4 : Cond.static yJ9_abs_0f7a4 ∈ iv_W0 := k_c3 (List.mem_of_getElem? (i := 82) rfl) rfl
set_option maxRecDepth 20000 in
theorem k_st_J9_max_7cf53 : Cond.static yJ9_max_7cf53 ∈ iv_W0 := k_c3 (List.mem_of_getElem? (i := 111) rfl) rfl
set_option maxRecDepth 20000 in
theorem k_st_J9_min_7cf53 : Cond.static yJ9_min_7cf53 ∈ iv_W0 := k_c1 (List.mem_of_getElem? (i := 79) rfl) rfl
set_option maxRecDepth 20000 in
theorem k_st_J0_checkBoundsBeginEnd_23922 : Cond.static yJ0_checkBoundsBeginEnd_23922 ∈ iv_W0 := k_c4 (List.mem_of_getElem? (i := 51) rfl) rfl
set_option maxRecDepth 20000 in
theorem k_st_J0_checkIndex_df160 : Cond.static yJ0_checkIndex_df160 ∈ iv_W0 := k_c3 (List.mem_of_getElem? (i := 231) rfl) rfl
set_option maxRecDepth 20000 in
theorem k_st_J1_canEncode_9a6ad : Cond.static yJ1_canEncode_9a6ad ∈ iv_W0 := k_c4 (List.mem_of_getElem? (i := 31) rfl) rfl
set_option maxRecDepth 20000 in
theorem k_st_J1_charAt_3b067 : Cond.static yJ1_charAt_3b067 ∈ iv_W0 := k_c3 (List.mem_of_getElem? (i := 228) rfl) rfl
set_option maxRecDepth 20000 in
theorem k_st_J1_indexOf_4cfef : Cond.static yJ1_indexOf_4cfef ∈ iv_W0 := k_c4 (List.mem_of_getElem? (i := 28) rfl) rfl
set_option maxRecDepth 20000 in
theorem k_st_J1_indexOfChar_4cfef : Cond.static yJ1_indexOfChar_4cfef ∈ iv_W0 := k_c4 (List.mem_of_getElem? (i := 36) rfl) rfl
set_option maxRecDepth 20000 in
theorem k_st_J2_charAt_3b067 : Cond.static yJ2_charAt_3b067 ∈ iv_W0 := k_c3 (List.mem_of_getElem? (i := 239) rfl) rfl
set_option maxRecDepth 20000 in
theorem k_st_J2_checkBoundsBeginEnd_d044e : Cond.static yJ2_checkBoundsBeginEnd_d044e ∈ iv_W0 := k_c4 (List.mem_of_getElem? (i := 48) rfl) rfl
set_option maxRecDepth 20000 in
theorem k_st_J2_checkIndex_2214a : Cond.static yJ2_checkIndex_2214a ∈ iv_W0 := k_c4 (List.mem_of_getElem? (i := 2) rfl) rfl
set_option maxRecDepth 20000 in
theorem k_st_J2_getChar_3b067 : Cond.static yJ2_getChar_3b067 ∈ iv_W0 := k_c4 (List.mem_of_getElem? (i := 9) rfl) rfl
set_option maxRecDepth 20000 in
theorem k_st_J2_indexOf_4cfef : Cond.static yJ2_indexOf_4cfef ∈ iv_W0 := k_c4 (List.mem_of_getElem? (i := 39) rfl) rfl
set_option maxRecDepth 20000 in
theorem k_st_J2_indexOfChar_4cfef : Cond.static yJ2_indexOfChar_4cfef ∈ iv_W0 := k_c4 (List.mem_of_getElem? (i := 45) rfl) rfl
set_option maxRecDepth 20000 in
theorem k_st_J2_indexOfCharUnsafe_4cfef : Cond.static yJ2_indexOfCharUnsafe_4cfef ∈ iv_W0 := k_c4 (List.mem_of_getElem? (i := 57) rfl) rfl
set_option maxRecDepth 20000 in
theorem k_st_J2_indexOfSupplementary_4cfef : Cond.static yJ2_indexOfSupplementary_4cfef ∈ iv_W0 := k_c4 (List.mem_of_getElem? (i := 60) rfl) rfl
set_option maxRecDepth 20000 in
theorem k_st_J2_length_9d52b : Cond.static yJ2_length_9d52b ∈ iv_W0 := k_c4 (List.mem_of_getElem? (i := 5) rfl) rfl
set_option maxRecDepth 20000 in
theorem k_st_J7_copyOf_59c91 : Cond.static yJ7_copyOf_59c91 ∈ iv_W0 := k_c1 (List.mem_of_getElem? (i := 69) rfl) rfl
set_option maxRecDepth 20000 in
theorem k_st_J7_fill_53178 : Cond.static yJ7_fill_53178 ∈ iv_W0 := k_c4 (List.mem_of_getElem? (i := 82) rfl) rfl
set_option maxRecDepth 20000 in
theorem k_st_J3_checkFromToIndex_8c36e : Cond.static yJ3_checkFromToIndex_8c36e ∈ iv_W0 := k_c4 (List.mem_of_getElem? (i := 54) rfl) rfl
set_option maxRecDepth 20000 in
theorem k_st_J3_checkIndex_8e157 : Cond.static yJ3_checkIndex_8e157 ∈ iv_W0 := k_c3 (List.mem_of_getElem? (i := 236) rfl) rfl
set_option maxRecDepth 20000 in
theorem k_sel_X11_isSetForBell : Cond.selects yX11_isSetForBell.cls yX11_isSetForBell yX11_isSetForBell ∈ iv_W0 := List.mem_filter.mpr ⟨List.mem_append_left _ (List.mem_of_getElem? (i := 0) rfl), rfl⟩
set_option maxRecDepth 20000 in
theorem k_sel_X11_isSetForAll : Cond.selects yX11_isSetForAll.cls yX11_isSetForAll yX11_isSetForAll ∈ iv_W0 := List.mem_filter.mpr ⟨List.mem_append_left _ (List.mem_of_getElem? (i := 1) rfl), rfl⟩
set_option maxRecDepth 20000 in
theorem k_sel_X2_drowningHours : Cond.selects yX2_drowningHours.cls yX2_drowningHours yX2_drowningHours ∈ iv_W0 := List.mem_filter.mpr ⟨List.mem_append_left _ (List.mem_of_getElem? (i := 2) rfl), rfl⟩
set_option maxRecDepth 20000 in
theorem k_sel_X2_loudFrom : Cond.selects yX2_loudFrom.cls yX2_loudFrom yX2_loudFrom ∈ iv_W0 := List.mem_filter.mpr ⟨List.mem_append_left _ (List.mem_of_getElem? (i := 3) rfl), rfl⟩
set_option maxRecDepth 20000 in
theorem k_sel_X2_learn : Cond.selects yX2_learn.cls yX2_learn yX2_learn ∈ iv_W0 := List.mem_filter.mpr ⟨List.mem_append_left _ (List.mem_of_getElem? (i := 4) rfl), rfl⟩
set_option maxRecDepth 20000 in
theorem k_sel_X3_run : Cond.selects yX3_run.cls yX3_run yX3_run ∈ iv_W0 := List.mem_filter.mpr ⟨List.mem_append_left _ (List.mem_of_getElem? (i := 5) rfl), rfl⟩
set_option maxRecDepth 20000 in
theorem k_sel_X0_bringChildren : Cond.selects yX0_bringChildren.cls yX0_bringChildren yX0_bringChildren ∈ iv_W0 := List.mem_filter.mpr ⟨List.mem_append_left _ (List.mem_of_getElem? (i := 6) rfl), rfl⟩
set_option maxRecDepth 20000 in
theorem k_sel_X0_bringChild : Cond.selects yX0_bringChild.cls yX0_bringChild yX0_bringChild ∈ iv_W0 := List.mem_filter.mpr ⟨List.mem_append_left _ (List.mem_of_getElem? (i := 7) rfl), rfl⟩
set_option maxRecDepth 20000 in
theorem k_sel_X11_putNumber : Cond.selects yX11_putNumber.cls yX11_putNumber yX11_putNumber ∈ iv_W0 := List.mem_filter.mpr ⟨List.mem_append_left _ (List.mem_of_getElem? (i := 8) rfl), rfl⟩
set_option maxRecDepth 20000 in
theorem k_sel_X7_begin : Cond.selects yX7_begin.cls yX7_begin yX7_begin ∈ iv_W0 := List.mem_filter.mpr ⟨List.mem_append_left _ (List.mem_of_getElem? (i := 9) rfl), rfl⟩
set_option maxRecDepth 20000 in
theorem k_sel_X7_step : Cond.selects yX7_step.cls yX7_step yX7_step ∈ iv_W0 := List.mem_filter.mpr ⟨List.mem_append_left _ (List.mem_of_getElem? (i := 10) rfl), rfl⟩
set_option maxRecDepth 20000 in
theorem k_sel_X7_readHourLine : Cond.selects yX7_readHourLine.cls yX7_readHourLine yX7_readHourLine ∈ iv_W0 := List.mem_filter.mpr ⟨List.mem_append_left _ (List.mem_of_getElem? (i := 11) rfl), rfl⟩
set_option maxRecDepth 20000 in
theorem k_sel_X7_refuse : Cond.selects yX7_refuse.cls yX7_refuse yX7_refuse ∈ iv_W0 := List.mem_filter.mpr ⟨List.mem_append_left _ (List.mem_of_getElem? (i := 12) rfl), rfl⟩
set_option maxRecDepth 20000 in
theorem k_sel_X7_takes : Cond.selects yX7_takes.cls yX7_takes yX7_takes ∈ iv_W0 := List.mem_filter.mpr ⟨List.mem_append_left _ (List.mem_of_getElem? (i := 13) rfl), rfl⟩
set_option maxRecDepth 20000 in
theorem k_sel_X7_takesNumber : Cond.selects yX7_takesNumber.cls yX7_takesNumber yX7_takesNumber ∈ iv_W0 := List.mem_filter.mpr ⟨List.mem_append_left _ (List.mem_of_getElem? (i := 14) rfl), rfl⟩
set_option maxRecDepth 20000 in
theorem k_sel_X7_readLawLine : Cond.selects yX7_readLawLine.cls yX7_readLawLine yX7_readLawLine ∈ iv_W0 := List.mem_filter.mpr ⟨List.mem_append_left _ (List.mem_of_getElem? (i := 15) rfl), rfl⟩
set_option maxRecDepth 20000 in
theorem k_sel_X7_readSum : Cond.selects yX7_readSum.cls yX7_readSum yX7_readSum ∈ iv_W0 := List.mem_filter.mpr ⟨List.mem_append_left _ (List.mem_of_getElem? (i := 16) rfl), rfl⟩
set_option maxRecDepth 20000 in
theorem k_sel_X7_readUnit : Cond.selects yX7_readUnit.cls yX7_readUnit yX7_readUnit ∈ iv_W0 := List.mem_filter.mpr ⟨List.mem_append_left _ (List.mem_of_getElem? (i := 17) rfl), rfl⟩
set_option maxRecDepth 20000 in
theorem k_sel_X7_emit : Cond.selects yX7_emit.cls yX7_emit yX7_emit ∈ iv_W0 := List.mem_filter.mpr ⟨List.mem_append_left _ (List.mem_of_getElem? (i := 18) rfl), rfl⟩
set_option maxRecDepth 20000 in
theorem k_sel_X7_emitWaiting : Cond.selects yX7_emitWaiting.cls yX7_emitWaiting yX7_emitWaiting ∈ iv_W0 := List.mem_filter.mpr ⟨List.mem_append_left _ (List.mem_of_getElem? (i := 19) rfl), rfl⟩
set_option maxRecDepth 20000 in
theorem k_sel_X7_readChoice : Cond.selects yX7_readChoice.cls yX7_readChoice yX7_readChoice ∈ iv_W0 := List.mem_filter.mpr ⟨List.mem_append_left _ (List.mem_of_getElem? (i := 20) rfl), rfl⟩
set_option maxRecDepth 20000 in
theorem k_sel_X7_readClaim : Cond.selects yX7_readClaim.cls yX7_readClaim yX7_readClaim ∈ iv_W0 := List.mem_filter.mpr ⟨List.mem_append_left _ (List.mem_of_getElem? (i := 21) rfl), rfl⟩
set_option maxRecDepth 20000 in
theorem k_sel_X7_readBracket : Cond.selects yX7_readBracket.cls yX7_readBracket yX7_readBracket ∈ iv_W0 := List.mem_filter.mpr ⟨List.mem_append_left _ (List.mem_of_getElem? (i := 22) rfl), rfl⟩
set_option maxRecDepth 20000 in
theorem k_sel_X7_readComparison : Cond.selects yX7_readComparison.cls yX7_readComparison yX7_readComparison ∈ iv_W0 := List.mem_filter.mpr ⟨List.mem_append_left _ (List.mem_of_getElem? (i := 23) rfl), rfl⟩
set_option maxRecDepth 20000 in
theorem k_sel_X11_takeHours : Cond.selects yX11_takeHours.cls yX11_takeHours yX11_takeHours ∈ iv_W0 := List.mem_filter.mpr ⟨List.mem_append_left _ (List.mem_of_getElem? (i := 24) rfl), rfl⟩
set_option maxRecDepth 20000 in
theorem k_sel_X11_takeLaw : Cond.selects yX11_takeLaw.cls yX11_takeLaw yX11_takeLaw ∈ iv_W0 := List.mem_filter.mpr ⟨List.mem_append_left _ (List.mem_of_getElem? (i := 25) rfl), rfl⟩
set_option maxRecDepth 20000 in
theorem k_sel_X9_canMelt : Cond.selects yX9_canMelt.cls yX9_canMelt yX9_canMelt ∈ iv_W0 := List.mem_filter.mpr ⟨List.mem_append_left _ (List.mem_of_getElem? (i := 26) rfl), rfl⟩
set_option maxRecDepth 20000 in
theorem k_sel_X9_weightOf : Cond.selects yX9_weightOf.cls yX9_weightOf yX9_weightOf ∈ iv_W0 := List.mem_filter.mpr ⟨List.mem_append_left _ (List.mem_of_getElem? (i := 27) rfl), rfl⟩
set_option maxRecDepth 20000 in
theorem k_sel_X9_isLessHarm : Cond.selects yX9_isLessHarm.cls yX9_isLessHarm yX9_isLessHarm ∈ iv_W0 := List.mem_filter.mpr ⟨List.mem_append_left _ (List.mem_of_getElem? (i := 28) rfl), rfl⟩
set_option maxRecDepth 20000 in
theorem k_sel_X9_isPitchThere : Cond.selects yX9_isPitchThere.cls yX9_isPitchThere yX9_isPitchThere ∈ iv_W0 := List.mem_filter.mpr ⟨List.mem_append_left _ (List.mem_of_getElem? (i := 29) rfl), rfl⟩
set_option maxRecDepth 20000 in
theorem k_sel_X9_isFreeAt : Cond.selects yX9_isFreeAt.cls yX9_isFreeAt yX9_isFreeAt ∈ iv_W0 := List.mem_filter.mpr ⟨List.mem_append_left _ (List.mem_of_getElem? (i := 30) rfl), rfl⟩
set_option maxRecDepth 20000 in
theorem k_sel_X4_gather : Cond.selects yX4_gather.cls yX4_gather yX4_gather ∈ iv_W0 := List.mem_filter.mpr ⟨List.mem_append_left _ (List.mem_of_getElem? (i := 31) rfl), rfl⟩
set_option maxRecDepth 20000 in
theorem k_sel_X4_waysAfter : Cond.selects yX4_waysAfter.cls yX4_waysAfter yX4_waysAfter ∈ iv_W0 := List.mem_filter.mpr ⟨List.mem_append_left _ (List.mem_of_getElem? (i := 32) rfl), rfl⟩
set_option maxRecDepth 20000 in
theorem k_sel_X4_canFollow : Cond.selects yX4_canFollow.cls yX4_canFollow yX4_canFollow ∈ iv_W0 := List.mem_filter.mpr ⟨List.mem_append_left _ (List.mem_of_getElem? (i := 33) rfl), rfl⟩
set_option maxRecDepth 20000 in
theorem k_sel_X4_firstAfter : Cond.selects yX4_firstAfter.cls yX4_firstAfter yX4_firstAfter ∈ iv_W0 := List.mem_filter.mpr ⟨List.mem_append_left _ (List.mem_of_getElem? (i := 34) rfl), rfl⟩
set_option maxRecDepth 20000 in
theorem k_sel_X9_rememberCame : Cond.selects yX9_rememberCame.cls yX9_rememberCame yX9_rememberCame ∈ iv_W0 := List.mem_filter.mpr ⟨List.mem_append_left _ (List.mem_of_getElem? (i := 35) rfl), rfl⟩
set_option maxRecDepth 20000 in
theorem k_sel_X9_wrongChildren : Cond.selects yX9_wrongChildren.cls yX9_wrongChildren yX9_wrongChildren ∈ iv_W0 := List.mem_filter.mpr ⟨List.mem_append_left _ (List.mem_of_getElem? (i := 36) rfl), rfl⟩
set_option maxRecDepth 20000 in
theorem k_sel_X9_isWrong : Cond.selects yX9_isWrong.cls yX9_isWrong yX9_isWrong ∈ iv_W0 := List.mem_filter.mpr ⟨List.mem_append_left _ (List.mem_of_getElem? (i := 37) rfl), rfl⟩
set_option maxRecDepth 20000 in
theorem k_sel_X9_partnerOf : Cond.selects yX9_partnerOf.cls yX9_partnerOf yX9_partnerOf ∈ iv_W0 := List.mem_filter.mpr ⟨List.mem_append_left _ (List.mem_of_getElem? (i := 38) rfl), rfl⟩
set_option maxRecDepth 20000 in
theorem k_sel_X9_doesFit : Cond.selects yX9_doesFit.cls yX9_doesFit yX9_doesFit ∈ iv_W0 := List.mem_filter.mpr ⟨List.mem_append_left _ (List.mem_of_getElem? (i := 39) rfl), rfl⟩
set_option maxRecDepth 20000 in
theorem k_sel_X12_forgets : Cond.selects yX12_forgets.cls yX12_forgets yX12_forgets ∈ iv_W0 := List.mem_filter.mpr ⟨List.mem_append_left _ (List.mem_of_getElem? (i := 40) rfl), rfl⟩
set_option maxRecDepth 20000 in
theorem k_sel_X12_bells : Cond.selects yX12_bells.cls yX12_bells yX12_bells ∈ iv_W0 := List.mem_filter.mpr ⟨List.mem_append_left _ (List.mem_of_getElem? (i := 41) rfl), rfl⟩
set_option maxRecDepth 20000 in
theorem k_sel_X12_canSet : Cond.selects yX12_canSet.cls yX12_canSet yX12_canSet ∈ iv_W0 := List.mem_filter.mpr ⟨List.mem_append_left _ (List.mem_of_getElem? (i := 42) rfl), rfl⟩
set_option maxRecDepth 20000 in
theorem k_sel_X12_isBell : Cond.selects yX12_isBell.cls yX12_isBell yX12_isBell ∈ iv_W0 := List.mem_filter.mpr ⟨List.mem_append_left _ (List.mem_of_getElem? (i := 43) rfl), rfl⟩
set_option maxRecDepth 20000 in
theorem k_sel_X12_next0 : Cond.selects yX12_next0.cls yX12_next0 yX12_next0 ∈ iv_W0 := List.mem_filter.mpr ⟨List.mem_append_left _ (List.mem_of_getElem? (i := 44) rfl), rfl⟩
set_option maxRecDepth 20000 in
theorem k_sel_X12_see : Cond.selects yX12_see.cls yX12_see yX12_see ∈ iv_W0 := List.mem_filter.mpr ⟨List.mem_append_left _ (List.mem_of_getElem? (i := 45) rfl), rfl⟩
set_option maxRecDepth 20000 in
theorem k_sel_X12_word : Cond.selects yX12_word.cls yX12_word yX12_word ∈ iv_W0 := List.mem_filter.mpr ⟨List.mem_append_left _ (List.mem_of_getElem? (i := 46) rfl), rfl⟩
set_option maxRecDepth 20000 in
theorem k_sel_X12_ringWord : Cond.selects yX12_ringWord.cls yX12_ringWord yX12_ringWord ∈ iv_W0 := List.mem_filter.mpr ⟨List.mem_append_left _ (List.mem_of_getElem? (i := 47) rfl), rfl⟩
set_option maxRecDepth 20000 in
theorem k_sel_X12_is : Cond.selects yX12_is.cls yX12_is yX12_is ∈ iv_W0 := List.mem_filter.mpr ⟨List.mem_append_left _ (List.mem_of_getElem? (i := 48) rfl), rfl⟩
set_option maxRecDepth 20000 in
theorem k_sel_X12_soundWord : Cond.selects yX12_soundWord.cls yX12_soundWord yX12_soundWord ∈ iv_W0 := List.mem_filter.mpr ⟨List.mem_append_left _ (List.mem_of_getElem? (i := 49) rfl), rfl⟩
set_option maxRecDepth 20000 in
theorem k_sel_X12_asked : Cond.selects yX12_asked.cls yX12_asked yX12_asked ∈ iv_W0 := List.mem_filter.mpr ⟨List.mem_append_left _ (List.mem_of_getElem? (i := 50) rfl), rfl⟩
set_option maxRecDepth 20000 in
theorem k_sel_X12_comingWord : Cond.selects yX12_comingWord.cls yX12_comingWord yX12_comingWord ∈ iv_W0 := List.mem_filter.mpr ⟨List.mem_append_left _ (List.mem_of_getElem? (i := 51) rfl), rfl⟩
set_option maxRecDepth 20000 in
theorem k_sel_X12_readsRings : Cond.selects yX12_readsRings.cls yX12_readsRings yX12_readsRings ∈ iv_W0 := List.mem_filter.mpr ⟨List.mem_append_left _ (List.mem_of_getElem? (i := 52) rfl), rfl⟩
set_option maxRecDepth 20000 in
theorem k_sel_X12_aRing : Cond.selects yX12_aRing.cls yX12_aRing yX12_aRing ∈ iv_W0 := List.mem_filter.mpr ⟨List.mem_append_left _ (List.mem_of_getElem? (i := 53) rfl), rfl⟩
set_option maxRecDepth 20000 in
theorem k_sel_X12_bad : Cond.selects yX12_bad.cls yX12_bad yX12_bad ∈ iv_W0 := List.mem_filter.mpr ⟨List.mem_append_left _ (List.mem_of_getElem? (i := 54) rfl), rfl⟩
set_option maxRecDepth 20000 in
theorem k_sel_X12_told : Cond.selects yX12_told.cls yX12_told yX12_told ∈ iv_W0 := List.mem_filter.mpr ⟨List.mem_append_left _ (List.mem_of_getElem? (i := 55) rfl), rfl⟩
set_option maxRecDepth 20000 in
theorem k_sel_X12_need : Cond.selects yX12_need.cls yX12_need yX12_need ∈ iv_W0 := List.mem_filter.mpr ⟨List.mem_append_left _ (List.mem_of_getElem? (i := 56) rfl), rfl⟩
set_option maxRecDepth 20000 in
theorem k_sel_X12_number : Cond.selects yX12_number.cls yX12_number yX12_number ∈ iv_W0 := List.mem_filter.mpr ⟨List.mem_append_left _ (List.mem_of_getElem? (i := 57) rfl), rfl⟩
set_option maxRecDepth 20000 in
theorem k_sel_X12_readsLaw : Cond.selects yX12_readsLaw.cls yX12_readsLaw yX12_readsLaw ∈ iv_W0 := List.mem_filter.mpr ⟨List.mem_append_left _ (List.mem_of_getElem? (i := 58) rfl), rfl⟩
set_option maxRecDepth 20000 in
theorem k_sel_X12_aLine : Cond.selects yX12_aLine.cls yX12_aLine yX12_aLine ∈ iv_W0 := List.mem_filter.mpr ⟨List.mem_append_left _ (List.mem_of_getElem? (i := 59) rfl), rfl⟩
set_option maxRecDepth 20000 in
theorem k_sel_X12_sumUp : Cond.selects yX12_sumUp.cls yX12_sumUp yX12_sumUp ∈ iv_W0 := List.mem_filter.mpr ⟨List.mem_append_left _ (List.mem_of_getElem? (i := 60) rfl), rfl⟩
set_option maxRecDepth 20000 in
theorem k_sel_X12_product : Cond.selects yX12_product.cls yX12_product yX12_product ∈ iv_W0 := List.mem_filter.mpr ⟨List.mem_append_left _ (List.mem_of_getElem? (i := 61) rfl), rfl⟩
set_option maxRecDepth 20000 in
theorem k_sel_X12_unit : Cond.selects yX12_unit.cls yX12_unit yX12_unit ∈ iv_W0 := List.mem_filter.mpr ⟨List.mem_append_left _ (List.mem_of_getElem? (i := 62) rfl), rfl⟩
set_option maxRecDepth 20000 in
theorem k_sel_X12_lay : Cond.selects yX12_lay.cls yX12_lay yX12_lay ∈ iv_W0 := List.mem_filter.mpr ⟨List.mem_append_left _ (List.mem_of_getElem? (i := 63) rfl), rfl⟩
set_option maxRecDepth 20000 in
theorem k_sel_X12_any : Cond.selects yX12_any.cls yX12_any yX12_any ∈ iv_W0 := List.mem_filter.mpr ⟨List.mem_append_left _ (List.mem_of_getElem? (i := 64) rfl), rfl⟩
set_option maxRecDepth 20000 in
theorem k_sel_X12_every : Cond.selects yX12_every.cls yX12_every yX12_every ∈ iv_W0 := List.mem_filter.mpr ⟨List.mem_append_left _ (List.mem_of_getElem? (i := 65) rfl), rfl⟩
set_option maxRecDepth 20000 in
theorem k_sel_X12_oneTest : Cond.selects yX12_oneTest.cls yX12_oneTest yX12_oneTest ∈ iv_W0 := List.mem_filter.mpr ⟨List.mem_append_left _ (List.mem_of_getElem? (i := 66) rfl), rfl⟩
set_option maxRecDepth 20000 in
theorem k_sel_X12_opens : Cond.selects yX12_opens.cls yX12_opens yX12_opens ∈ iv_W0 := List.mem_filter.mpr ⟨List.mem_append_left _ (List.mem_of_getElem? (i := 67) rfl), rfl⟩
set_option maxRecDepth 20000 in
theorem k_sel_X12_putsRings : Cond.selects yX12_putsRings.cls yX12_putsRings yX12_putsRings ∈ iv_W0 := List.mem_filter.mpr ⟨List.mem_append_left _ (List.mem_of_getElem? (i := 68) rfl), rfl⟩
set_option maxRecDepth 20000 in
theorem k_sel_X12_putsLaw : Cond.selects yX12_putsLaw.cls yX12_putsLaw yX12_putsLaw ∈ iv_W0 := List.mem_filter.mpr ⟨List.mem_append_left _ (List.mem_of_getElem? (i := 69) rfl), rfl⟩
set_option maxRecDepth 20000 in
theorem k_sel_X12_ofBell : Cond.selects yX12_ofBell.cls yX12_ofBell yX12_ofBell ∈ iv_W0 := List.mem_filter.mpr ⟨List.mem_append_left _ (List.mem_of_getElem? (i := 70) rfl), rfl⟩
set_option maxRecDepth 20000 in
theorem k_sel_X12_keeps : Cond.selects yX12_keeps.cls yX12_keeps yX12_keeps ∈ iv_W0 := List.mem_filter.mpr ⟨List.mem_append_left _ (List.mem_of_getElem? (i := 71) rfl), rfl⟩
set_option maxRecDepth 20000 in
theorem k_sel_X12_notes : Cond.selects yX12_notes.cls yX12_notes yX12_notes ∈ iv_W0 := List.mem_filter.mpr ⟨List.mem_append_left _ (List.mem_of_getElem? (i := 72) rfl), rfl⟩
set_option maxRecDepth 20000 in
theorem k_sel_X12_isChild : Cond.selects yX12_isChild.cls yX12_isChild yX12_isChild ∈ iv_W0 := List.mem_filter.mpr ⟨List.mem_append_left _ (List.mem_of_getElem? (i := 73) rfl), rfl⟩
set_option maxRecDepth 20000 in
theorem k_sel_X12_swaps : Cond.selects yX12_swaps.cls yX12_swaps yX12_swaps ∈ iv_W0 := List.mem_filter.mpr ⟨List.mem_append_left _ (List.mem_of_getElem? (i := 74) rfl), rfl⟩
set_option maxRecDepth 20000 in
theorem k_sel_X12_ofChild : Cond.selects yX12_ofChild.cls yX12_ofChild yX12_ofChild ∈ iv_W0 := List.mem_filter.mpr ⟨List.mem_append_left _ (List.mem_of_getElem? (i := 75) rfl), rfl⟩
set_option maxRecDepth 20000 in
theorem k_sel_X12_aDay : Cond.selects yX12_aDay.cls yX12_aDay yX12_aDay ∈ iv_W0 := List.mem_filter.mpr ⟨List.mem_append_left _ (List.mem_of_getElem? (i := 76) rfl), rfl⟩
set_option maxRecDepth 20000 in
theorem k_sel_X12_soundingOf : Cond.selects yX12_soundingOf.cls yX12_soundingOf yX12_soundingOf ∈ iv_W0 := List.mem_filter.mpr ⟨List.mem_append_left _ (List.mem_of_getElem? (i := 77) rfl), rfl⟩
set_option maxRecDepth 20000 in
theorem k_sel_X12_sounds : Cond.selects yX12_sounds.cls yX12_sounds yX12_sounds ∈ iv_W0 := List.mem_filter.mpr ⟨List.mem_append_left _ (List.mem_of_getElem? (i := 78) rfl), rfl⟩
set_option maxRecDepth 20000 in
theorem k_sel_X12_hasLine : Cond.selects yX12_hasLine.cls yX12_hasLine yX12_hasLine ∈ iv_W0 := List.mem_filter.mpr ⟨List.mem_append_left _ (List.mem_of_getElem? (i := 79) rfl), rfl⟩
set_option maxRecDepth 20000 in
theorem k_sel_X12_isLineAt : Cond.selects yX12_isLineAt.cls yX12_isLineAt yX12_isLineAt ∈ iv_W0 := List.mem_filter.mpr ⟨List.mem_append_left _ (List.mem_of_getElem? (i := 80) rfl), rfl⟩
set_option maxRecDepth 20000 in
theorem k_sel_X12_isRung : Cond.selects yX12_isRung.cls yX12_isRung yX12_isRung ∈ iv_W0 := List.mem_filter.mpr ⟨List.mem_append_left _ (List.mem_of_getElem? (i := 81) rfl), rfl⟩
set_option maxRecDepth 20000 in
theorem k_sel_X12_comeOf : Cond.selects yX12_comeOf.cls yX12_comeOf yX12_comeOf ∈ iv_W0 := List.mem_filter.mpr ⟨List.mem_append_left _ (List.mem_of_getElem? (i := 82) rfl), rfl⟩
set_option maxRecDepth 20000 in
theorem k_sel_X12_comingSays : Cond.selects yX12_comingSays.cls yX12_comingSays yX12_comingSays ∈ iv_W0 := List.mem_filter.mpr ⟨List.mem_append_left _ (List.mem_of_getElem? (i := 83) rfl), rfl⟩
set_option maxRecDepth 20000 in
theorem k_sel_X12_clearOf : Cond.selects yX12_clearOf.cls yX12_clearOf yX12_clearOf ∈ iv_W0 := List.mem_filter.mpr ⟨List.mem_append_left _ (List.mem_of_getElem? (i := 84) rfl), rfl⟩
set_option maxRecDepth 20000 in
theorem k_sel_X12_isClear : Cond.selects yX12_isClear.cls yX12_isClear yX12_isClear ∈ iv_W0 := List.mem_filter.mpr ⟨List.mem_append_left _ (List.mem_of_getElem? (i := 85) rfl), rfl⟩
set_option maxRecDepth 20000 in
theorem k_sel_X12_drowns : Cond.selects yX12_drowns.cls yX12_drowns yX12_drowns ∈ iv_W0 := List.mem_filter.mpr ⟨List.mem_append_left _ (List.mem_of_getElem? (i := 86) rfl), rfl⟩
set_option maxRecDepth 20000 in
theorem k_sel_X12_loudOf : Cond.selects yX12_loudOf.cls yX12_loudOf yX12_loudOf ∈ iv_W0 := List.mem_filter.mpr ⟨List.mem_append_left _ (List.mem_of_getElem? (i := 87) rfl), rfl⟩
set_option maxRecDepth 20000 in
theorem k_sel_X12_lays : Cond.selects yX12_lays.cls yX12_lays yX12_lays ∈ iv_W0 := List.mem_filter.mpr ⟨List.mem_append_left _ (List.mem_of_getElem? (i := 88) rfl), rfl⟩
set_option maxRecDepth 20000 in
theorem k_sel_X12_farOf : Cond.selects yX12_farOf.cls yX12_farOf yX12_farOf ∈ iv_W0 := List.mem_filter.mpr ⟨List.mem_append_left _ (List.mem_of_getElem? (i := 89) rfl), rfl⟩
set_option maxRecDepth 20000 in
theorem k_sel_X12_says : Cond.selects yX12_says.cls yX12_says yX12_says ∈ iv_W0 := List.mem_filter.mpr ⟨List.mem_append_left _ (List.mem_of_getElem? (i := 90) rfl), rfl⟩
set_option maxRecDepth 20000 in
theorem k_sel_X12_isSo : Cond.selects yX12_isSo.cls yX12_isSo yX12_isSo ∈ iv_W0 := List.mem_filter.mpr ⟨List.mem_append_left _ (List.mem_of_getElem? (i := 91) rfl), rfl⟩
set_option maxRecDepth 20000 in
theorem k_sel_X12_comesTo : Cond.selects yX12_comesTo.cls yX12_comesTo yX12_comesTo ∈ iv_W0 := List.mem_filter.mpr ⟨List.mem_append_left _ (List.mem_of_getElem? (i := 92) rfl), rfl⟩
set_option maxRecDepth 20000 in
theorem k_sel_X12_slackOf : Cond.selects yX12_slackOf.cls yX12_slackOf yX12_slackOf ∈ iv_W0 := List.mem_filter.mpr ⟨List.mem_append_left _ (List.mem_of_getElem? (i := 93) rfl), rfl⟩
set_option maxRecDepth 20000 in
theorem k_sel_X12_draw : Cond.selects yX12_draw.cls yX12_draw yX12_draw ∈ iv_W0 := List.mem_filter.mpr ⟨List.mem_append_left _ (List.mem_of_getElem? (i := 94) rfl), rfl⟩
set_option maxRecDepth 20000 in
theorem k_sel_X12_astrayOf : Cond.selects yX12_astrayOf.cls yX12_astrayOf yX12_astrayOf ∈ iv_W0 := List.mem_filter.mpr ⟨List.mem_append_left _ (List.mem_of_getElem? (i := 95) rfl), rfl⟩
set_option maxRecDepth 20000 in
theorem k_sel_X12_isOctave : Cond.selects yX12_isOctave.cls yX12_isOctave yX12_isOctave ∈ iv_W0 := List.mem_filter.mpr ⟨List.mem_append_left _ (List.mem_of_getElem? (i := 96) rfl), rfl⟩
set_option maxRecDepth 20000 in
theorem k_sel_X12_comesOne : Cond.selects yX12_comesOne.cls yX12_comesOne yX12_comesOne ∈ iv_W0 := List.mem_filter.mpr ⟨List.mem_append_left _ (List.mem_of_getElem? (i := 97) rfl), rfl⟩
set_option maxRecDepth 20000 in
theorem k_sel_X12_silentFrom : Cond.selects yX12_silentFrom.cls yX12_silentFrom yX12_silentFrom ∈ iv_W0 := List.mem_filter.mpr ⟨List.mem_append_left _ (List.mem_of_getElem? (i := 98) rfl), rfl⟩
set_option maxRecDepth 20000 in
theorem k_sel_X12_isSilent : Cond.selects yX12_isSilent.cls yX12_isSilent yX12_isSilent ∈ iv_W0 := List.mem_filter.mpr ⟨List.mem_append_left _ (List.mem_of_getElem? (i := 99) rfl), rfl⟩
set_option maxRecDepth 20000 in
theorem k_sel_X12_soundingIn : Cond.selects yX12_soundingIn.cls yX12_soundingIn yX12_soundingIn ∈ iv_W0 := List.mem_filter.mpr ⟨List.mem_append_left _ (List.mem_of_getElem? (i := 100) rfl), rfl⟩
set_option maxRecDepth 20000 in
theorem k_sel_X12_isRungBell : Cond.selects yX12_isRungBell.cls yX12_isRungBell yX12_isRungBell ∈ iv_W0 := List.mem_filter.mpr ⟨List.mem_append_left _ (List.mem_of_getElem? (i := 101) rfl), rfl⟩
set_option maxRecDepth 20000 in
theorem k_sel_X12_isDrowned : Cond.selects yX12_isDrowned.cls yX12_isDrowned yX12_isDrowned ∈ iv_W0 := List.mem_filter.mpr ⟨List.mem_append_left _ (List.mem_of_getElem? (i := 102) rfl), rfl⟩
set_option maxRecDepth 20000 in
theorem k_sel_X12_doQuarrel : Cond.selects yX12_doQuarrel.cls yX12_doQuarrel yX12_doQuarrel ∈ iv_W0 := List.mem_filter.mpr ⟨List.mem_append_left _ (List.mem_of_getElem? (i := 103) rfl), rfl⟩
set_option maxRecDepth 20000 in
theorem k_sel_X12_canBeRaised : Cond.selects yX12_canBeRaised.cls yX12_canBeRaised yX12_canBeRaised ∈ iv_W0 := List.mem_filter.mpr ⟨List.mem_append_left _ (List.mem_of_getElem? (i := 104) rfl), rfl⟩
set_option maxRecDepth 20000 in
theorem k_sel_X12_rowsFrom : Cond.selects yX12_rowsFrom.cls yX12_rowsFrom yX12_rowsFrom ∈ iv_W0 := List.mem_filter.mpr ⟨List.mem_append_left _ (List.mem_of_getElem? (i := 105) rfl), rfl⟩
set_option maxRecDepth 20000 in
theorem k_sel_X12_canRing : Cond.selects yX12_canRing.cls yX12_canRing yX12_canRing ∈ iv_W0 := List.mem_filter.mpr ⟨List.mem_append_left _ (List.mem_of_getElem? (i := 106) rfl), rfl⟩
set_option maxRecDepth 20000 in
theorem k_sel_X12_unmelted : Cond.selects yX12_unmelted.cls yX12_unmelted yX12_unmelted ∈ iv_W0 := List.mem_filter.mpr ⟨List.mem_append_left _ (List.mem_of_getElem? (i := 107) rfl), rfl⟩
set_option maxRecDepth 20000 in
theorem k_sel_X12_sumOf : Cond.selects yX12_sumOf.cls yX12_sumOf yX12_sumOf ∈ iv_W0 := List.mem_filter.mpr ⟨List.mem_append_left _ (List.mem_of_getElem? (i := 108) rfl), rfl⟩
set_option maxRecDepth 20000 in
theorem k_sel_X12_isBetter : Cond.selects yX12_isBetter.cls yX12_isBetter yX12_isBetter ∈ iv_W0 := List.mem_filter.mpr ⟨List.mem_append_left _ (List.mem_of_getElem? (i := 109) rfl), rfl⟩
set_option maxRecDepth 20000 in
theorem k_sel_X12_isPitched : Cond.selects yX12_isPitched.cls yX12_isPitched yX12_isPitched ∈ iv_W0 := List.mem_filter.mpr ⟨List.mem_append_left _ (List.mem_of_getElem? (i := 110) rfl), rfl⟩
set_option maxRecDepth 20000 in
theorem k_sel_X12_wrongs : Cond.selects yX12_wrongs.cls yX12_wrongs yX12_wrongs ∈ iv_W0 := List.mem_filter.mpr ⟨List.mem_append_left _ (List.mem_of_getElem? (i := 111) rfl), rfl⟩
set_option maxRecDepth 20000 in
theorem k_sel_X12_isWrong : Cond.selects yX12_isWrong.cls yX12_isWrong yX12_isWrong ∈ iv_W0 := List.mem_filter.mpr ⟨List.mem_append_left _ (List.mem_of_getElem? (i := 112) rfl), rfl⟩
set_option maxRecDepth 20000 in
theorem k_sel_X12_setsRight : Cond.selects yX12_setsRight.cls yX12_setsRight yX12_setsRight ∈ iv_W0 := List.mem_filter.mpr ⟨List.mem_append_left _ (List.mem_of_getElem? (i := 113) rfl), rfl⟩
set_option maxRecDepth 20000 in
theorem k_sel_X12_nextSwap : Cond.selects yX12_nextSwap.cls yX12_nextSwap yX12_nextSwap ∈ iv_W0 := List.mem_filter.mpr ⟨List.mem_append_left _ (List.mem_of_getElem? (i := 114) rfl), rfl⟩
set_option maxRecDepth 20000 in
theorem k_sel_X12_swapsWith : Cond.selects yX12_swapsWith.cls yX12_swapsWith yX12_swapsWith ∈ iv_W0 := List.mem_filter.mpr ⟨List.mem_append_left _ (List.mem_of_getElem? (i := 115) rfl), rfl⟩
set_option maxRecDepth 20000 in
theorem k_sel_X12_canTakeFrom : Cond.selects yX12_canTakeFrom.cls yX12_canTakeFrom yX12_canTakeFrom ∈ iv_W0 := List.mem_filter.mpr ⟨List.mem_append_left _ (List.mem_of_getElem? (i := 116) rfl), rfl⟩
set_option maxRecDepth 20000 in
theorem k_sel_X12_fitsOf : Cond.selects yX12_fitsOf.cls yX12_fitsOf yX12_fitsOf ∈ iv_W0 := List.mem_filter.mpr ⟨List.mem_append_left _ (List.mem_of_getElem? (i := 117) rfl), rfl⟩
set_option maxRecDepth 20000 in
theorem k_sel_X12_isOfTurns : Cond.selects yX12_isOfTurns.cls yX12_isOfTurns yX12_isOfTurns ∈ iv_W0 := List.mem_filter.mpr ⟨List.mem_append_left _ (List.mem_of_getElem? (i := 118) rfl), rfl⟩
set_option maxRecDepth 20000 in
theorem k_sel_X12_greaterPart : Cond.selects yX12_greaterPart.cls yX12_greaterPart yX12_greaterPart ∈ iv_W0 := List.mem_filter.mpr ⟨List.mem_append_left _ (List.mem_of_getElem? (i := 119) rfl), rfl⟩
set_option maxRecDepth 20000 in
theorem k_sel_X12_laysPeals : Cond.selects yX12_laysPeals.cls yX12_laysPeals yX12_laysPeals ∈ iv_W0 := List.mem_filter.mpr ⟨List.mem_append_left _ (List.mem_of_getElem? (i := 120) rfl), rfl⟩
set_option maxRecDepth 20000 in
theorem k_sel_X12_canFollow : Cond.selects yX12_canFollow.cls yX12_canFollow yX12_canFollow ∈ iv_W0 := List.mem_filter.mpr ⟨List.mem_append_left _ (List.mem_of_getElem? (i := 121) rfl), rfl⟩
