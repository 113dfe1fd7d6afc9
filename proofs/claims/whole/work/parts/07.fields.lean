/-! FIELDS: by program -/
theorem zin1 : ∀ w ∈ u_ws RX1 TX1 13, w ∈ zts := by
  intro w hw
  have h1 := goodIn_of (big := lw_tbl) (u_ws RX1 TX1 13) (by decide +kernel) w hw
  exact List.mem_filter.mpr ⟨h1.1, (List.all_eq_true.mp (show (u_ws RX1 TX1 13).all goodWord = true by decide +kernel)) w hw⟩
theorem zin2 : ∀ w ∈ u_ws RX2 TX2 2, w ∈ zts := by
  intro w hw
  have h1 := goodIn_of (big := lw_tbl) (u_ws RX2 TX2 2) (by decide +kernel) w hw
  exact List.mem_filter.mpr ⟨h1.1, (List.all_eq_true.mp (show (u_ws RX2 TX2 2).all goodWord = true by decide +kernel)) w hw⟩
theorem zin3 : ∀ w ∈ u_ws RX3 TX3 6, w ∈ zts := by
  intro w hw
  have h1 := goodIn_of (big := lw_tbl) (u_ws RX3 TX3 6) (by decide +kernel) w hw
  exact List.mem_filter.mpr ⟨h1.1, (List.all_eq_true.mp (show (u_ws RX3 TX3 6).all goodWord = true by decide +kernel)) w hw⟩
theorem zin4 : ∀ w ∈ u_ws RX4 TX4 1, w ∈ zts := by
  intro w hw
  have h1 := goodIn_of (big := lw_tbl) (u_ws RX4 TX4 1) (by decide +kernel) w hw
  exact List.mem_filter.mpr ⟨h1.1, (List.all_eq_true.mp (show (u_ws RX4 TX4 1).all goodWord = true by decide +kernel)) w hw⟩
theorem zin5 : ∀ w ∈ u_ws RX5 TX5 9, w ∈ zts := by
  intro w hw
  have h1 := goodIn_of (big := lw_tbl) (u_ws RX5 TX5 9) (by decide +kernel) w hw
  exact List.mem_filter.mpr ⟨h1.1, (List.all_eq_true.mp (show (u_ws RX5 TX5 9).all goodWord = true by decide +kernel)) w hw⟩
theorem zin6 : ∀ w ∈ u_ws RX6 TX6 18, w ∈ zts := by
  intro w hw
  have h1 := goodIn_of (big := lw_tbl) (u_ws RX6 TX6 18) (by decide +kernel) w hw
  exact List.mem_filter.mpr ⟨h1.1, (List.all_eq_true.mp (show (u_ws RX6 TX6 18).all goodWord = true by decide +kernel)) w hw⟩
theorem zf_X1_37 : zF RX1 37 0 0 := ⟨RX1, TX1, 13, rfl, by decide, zin1, zmem 63 (by decide +kernel) rfl, rfl⟩
theorem zfw_X1_37 : zFw RX1 37 0 0 .int := ⟨RX1, TX1, 13, tyX1, rfl, by decide, zin1, zmem 63 (by decide +kernel) rfl, rfl, tyX1_ok, nmX1, rfl, by decide +kernel⟩
theorem zf_X4_15 : zF RX4 15 0 0 := ⟨RX1, TX1, 13, rfl, by decide, zin1, zmem 64 (by decide +kernel) rfl, rfl⟩
theorem zfw_X4_15 : zFw RX4 15 0 0 .int := ⟨RX1, TX1, 13, tyX1, rfl, by decide, zin1, zmem 64 (by decide +kernel) rfl, rfl, tyX1_ok, nmX1, rfl, by decide +kernel⟩
theorem zf_X2_95 : zF RX2 95 0 0 := ⟨RX1, TX1, 13, rfl, by decide, zin1, zmem 65 (by decide +kernel) rfl, rfl⟩
theorem zfw_X2_95 : zFw RX2 95 0 0 .int := ⟨RX1, TX1, 13, tyX1, rfl, by decide, zin1, zmem 65 (by decide +kernel) rfl, rfl, tyX1_ok, nmX1, rfl, by decide +kernel⟩
theorem zf_X3_114 : zF RX3 114 0 0 := ⟨RX1, TX1, 13, rfl, by decide, zin1, zmem 66 (by decide +kernel) rfl, rfl⟩
theorem zfw_X3_114 : zFw RX3 114 0 0 .int := ⟨RX1, TX1, 13, tyX1, rfl, by decide, zin1, zmem 66 (by decide +kernel) rfl, rfl, tyX1_ok, nmX1, rfl, by decide +kernel⟩
theorem zf_X5_237 : zF RX5 237 0 0 := ⟨RX1, TX1, 13, rfl, by decide, zin1, zmem 67 (by decide +kernel) rfl, rfl⟩
theorem zfw_X5_237 : zFw RX5 237 0 0 .int := ⟨RX1, TX1, 13, tyX1, rfl, by decide, zin1, zmem 67 (by decide +kernel) rfl, rfl, tyX1_ok, nmX1, rfl, by decide +kernel⟩
theorem zf_X1_40 : zF RX1 40 0 1 := ⟨RX1, TX1, 13, rfl, by decide, zin1, zmem 68 (by decide +kernel) rfl, rfl⟩
theorem zfw_X1_40 : zFw RX1 40 0 1 .int := ⟨RX1, TX1, 13, tyX1, rfl, by decide, zin1, zmem 68 (by decide +kernel) rfl, rfl, tyX1_ok, nmX1, rfl, by decide +kernel⟩
theorem zf_X4_21 : zF RX4 21 0 1 := ⟨RX1, TX1, 13, rfl, by decide, zin1, zmem 69 (by decide +kernel) rfl, rfl⟩
theorem zfw_X4_21 : zFw RX4 21 0 1 .int := ⟨RX1, TX1, 13, tyX1, rfl, by decide, zin1, zmem 69 (by decide +kernel) rfl, rfl, tyX1_ok, nmX1, rfl, by decide +kernel⟩
theorem zf_X2_104 : zF RX2 104 0 1 := ⟨RX1, TX1, 13, rfl, by decide, zin1, zmem 70 (by decide +kernel) rfl, rfl⟩
theorem zfw_X2_104 : zFw RX2 104 0 1 .int := ⟨RX1, TX1, 13, tyX1, rfl, by decide, zin1, zmem 70 (by decide +kernel) rfl, rfl, tyX1_ok, nmX1, rfl, by decide +kernel⟩
theorem zf_X3_75 : zF RX3 75 0 1 := ⟨RX1, TX1, 13, rfl, by decide, zin1, zmem 71 (by decide +kernel) rfl, rfl⟩
theorem zfw_X3_75 : zFw RX3 75 0 1 .int := ⟨RX1, TX1, 13, tyX1, rfl, by decide, zin1, zmem 71 (by decide +kernel) rfl, rfl, tyX1_ok, nmX1, rfl, by decide +kernel⟩
theorem zf_X5_269 : zF RX5 269 0 1 := ⟨RX1, TX1, 13, rfl, by decide, zin1, zmem 72 (by decide +kernel) rfl, rfl⟩
theorem zfw_X5_269 : zFw RX5 269 0 1 .int := ⟨RX1, TX1, 13, tyX1, rfl, by decide, zin1, zmem 72 (by decide +kernel) rfl, rfl, tyX1_ok, nmX1, rfl, by decide +kernel⟩
theorem zf_X1_9 : zF RX1 9 0 2 := ⟨RX1, TX1, 13, rfl, by decide, zin1, zmem 73 (by decide +kernel) rfl, rfl⟩
theorem zfw_X1_9 : zFw RX1 9 0 2 .int := ⟨RX1, TX1, 13, tyX1, rfl, by decide, zin1, zmem 73 (by decide +kernel) rfl, rfl, tyX1_ok, nmX1, rfl, by decide +kernel⟩
theorem zf_X3_63 : zF RX3 63 0 2 := ⟨RX1, TX1, 13, rfl, by decide, zin1, zmem 74 (by decide +kernel) rfl, rfl⟩
theorem zfw_X3_63 : zFw RX3 63 0 2 .int := ⟨RX1, TX1, 13, tyX1, rfl, by decide, zin1, zmem 74 (by decide +kernel) rfl, rfl, tyX1_ok, nmX1, rfl, by decide +kernel⟩
theorem zf_X5_132 : zF RX5 132 0 2 := ⟨RX1, TX1, 13, rfl, by decide, zin1, zmem 75 (by decide +kernel) rfl, rfl⟩
theorem zfw_X5_132 : zFw RX5 132 0 2 .int := ⟨RX1, TX1, 13, tyX1, rfl, by decide, zin1, zmem 75 (by decide +kernel) rfl, rfl, tyX1_ok, nmX1, rfl, by decide +kernel⟩
theorem zf_X2_133 : zF RX2 133 0 2 := ⟨RX1, TX1, 13, rfl, by decide, zin1, zmem 76 (by decide +kernel) rfl, rfl⟩
theorem zfw_X2_133 : zFw RX2 133 0 2 .int := ⟨RX1, TX1, 13, tyX1, rfl, by decide, zin1, zmem 76 (by decide +kernel) rfl, rfl, tyX1_ok, nmX1, rfl, by decide +kernel⟩
theorem zf_X1_43 : zF RX1 43 0 3 := ⟨RX1, TX1, 13, rfl, by decide, zin1, zmem 77 (by decide +kernel) rfl, rfl⟩
theorem zfw_X1_43 : zFw RX1 43 0 3 .int := ⟨RX1, TX1, 13, tyX1, rfl, by decide, zin1, zmem 77 (by decide +kernel) rfl, rfl, tyX1_ok, nmX1, rfl, by decide +kernel⟩
theorem zf_X5_141 : zF RX5 141 0 3 := ⟨RX1, TX1, 13, rfl, by decide, zin1, zmem 78 (by decide +kernel) rfl, rfl⟩
theorem zfw_X5_141 : zFw RX5 141 0 3 .int := ⟨RX1, TX1, 13, tyX1, rfl, by decide, zin1, zmem 78 (by decide +kernel) rfl, rfl, tyX1_ok, nmX1, rfl, by decide +kernel⟩
theorem zf_X1_46 : zF RX1 46 0 4 := ⟨RX1, TX1, 13, rfl, by decide, zin1, zmem 79 (by decide +kernel) rfl, rfl⟩
theorem zfw_X1_46 : zFw RX1 46 0 4 .int := ⟨RX1, TX1, 13, tyX1, rfl, by decide, zin1, zmem 79 (by decide +kernel) rfl, rfl, tyX1_ok, nmX1, rfl, by decide +kernel⟩
theorem zf_X5_266 : zF RX5 266 0 4 := ⟨RX1, TX1, 13, rfl, by decide, zin1, zmem 80 (by decide +kernel) rfl, rfl⟩
theorem zfw_X5_266 : zFw RX5 266 0 4 .int := ⟨RX1, TX1, 13, tyX1, rfl, by decide, zin1, zmem 80 (by decide +kernel) rfl, rfl, tyX1_ok, nmX1, rfl, by decide +kernel⟩
theorem zf_X3_108 : zF RX3 108 0 5 := ⟨RX1, TX1, 13, rfl, by decide, zin1, zmem 81 (by decide +kernel) rfl, rfl⟩
theorem zfw_X3_108 : zFw RX3 108 0 5 .int := ⟨RX1, TX1, 13, tyX1, rfl, by decide, zin1, zmem 81 (by decide +kernel) rfl, rfl, tyX1_ok, nmX1, rfl, by decide +kernel⟩
theorem zf_X1_110 : zF RX1 110 0 5 := ⟨RX1, TX1, 13, rfl, by decide, zin1, zmem 82 (by decide +kernel) rfl, rfl⟩
theorem zfw_X1_110 : zFw RX1 110 0 5 .int := ⟨RX1, TX1, 13, tyX1, rfl, by decide, zin1, zmem 82 (by decide +kernel) rfl, rfl, tyX1_ok, nmX1, rfl, by decide +kernel⟩
theorem zf_X5_278 : zF RX5 278 0 5 := ⟨RX1, TX1, 13, rfl, by decide, zin1, zmem 83 (by decide +kernel) rfl, rfl⟩
theorem zfw_X5_278 : zFw RX5 278 0 5 .int := ⟨RX1, TX1, 13, tyX1, rfl, by decide, zin1, zmem 83 (by decide +kernel) rfl, rfl, tyX1_ok, nmX1, rfl, by decide +kernel⟩
theorem zf_X1_15 : zF RX1 15 0 6 := ⟨RX1, TX1, 13, rfl, by decide, zin1, zmem 84 (by decide +kernel) rfl, rfl⟩
theorem zf_X3_117 : zF RX3 117 0 6 := ⟨RX1, TX1, 13, rfl, by decide, zin1, zmem 85 (by decide +kernel) rfl, rfl⟩
theorem zf_X1_19 : zF RX1 19 0 7 := ⟨RX1, TX1, 13, rfl, by decide, zin1, zmem 86 (by decide +kernel) rfl, rfl⟩
theorem zf_X3_60 : zF RX3 60 0 7 := ⟨RX1, TX1, 13, rfl, by decide, zin1, zmem 87 (by decide +kernel) rfl, rfl⟩
theorem zf_X1_22 : zF RX1 22 0 8 := ⟨RX1, TX1, 13, rfl, by decide, zin1, zmem 88 (by decide +kernel) rfl, rfl⟩
theorem zf_X3_43 : zF RX3 43 0 8 := ⟨RX1, TX1, 13, rfl, by decide, zin1, zmem 89 (by decide +kernel) rfl, rfl⟩
theorem zf_X5_101 : zF RX5 101 0 8 := ⟨RX1, TX1, 13, rfl, by decide, zin1, zmem 90 (by decide +kernel) rfl, rfl⟩
theorem zf_X1_25 : zF RX1 25 0 9 := ⟨RX1, TX1, 13, rfl, by decide, zin1, zmem 91 (by decide +kernel) rfl, rfl⟩
theorem zf_X3_46 : zF RX3 46 0 9 := ⟨RX1, TX1, 13, rfl, by decide, zin1, zmem 92 (by decide +kernel) rfl, rfl⟩
theorem zf_X5_104 : zF RX5 104 0 9 := ⟨RX1, TX1, 13, rfl, by decide, zin1, zmem 93 (by decide +kernel) rfl, rfl⟩
theorem zf_X1_28 : zF RX1 28 0 10 := ⟨RX1, TX1, 13, rfl, by decide, zin1, zmem 94 (by decide +kernel) rfl, rfl⟩
theorem zf_X5_107 : zF RX5 107 0 10 := ⟨RX1, TX1, 13, rfl, by decide, zin1, zmem 95 (by decide +kernel) rfl, rfl⟩
theorem zf_X3_99 : zF RX3 99 0 10 := ⟨RX1, TX1, 13, rfl, by decide, zin1, zmem 96 (by decide +kernel) rfl, rfl⟩
theorem zf_X1_31 : zF RX1 31 0 11 := ⟨RX1, TX1, 13, rfl, by decide, zin1, zmem 97 (by decide +kernel) rfl, rfl⟩
theorem zf_X5_110 : zF RX5 110 0 11 := ⟨RX1, TX1, 13, rfl, by decide, zin1, zmem 98 (by decide +kernel) rfl, rfl⟩
theorem zf_X3_78 : zF RX3 78 0 11 := ⟨RX1, TX1, 13, rfl, by decide, zin1, zmem 99 (by decide +kernel) rfl, rfl⟩
theorem zf_X2_124 : zF RX2 124 0 11 := ⟨RX1, TX1, 13, rfl, by decide, zin1, zmem 100 (by decide +kernel) rfl, rfl⟩
theorem zf_X1_34 : zF RX1 34 0 12 := ⟨RX1, TX1, 13, rfl, by decide, zin1, zmem 101 (by decide +kernel) rfl, rfl⟩
theorem zf_X3_96 : zF RX3 96 0 12 := ⟨RX1, TX1, 13, rfl, by decide, zin1, zmem 102 (by decide +kernel) rfl, rfl⟩
theorem zf_X2_9 : zF RX2 9 1 0 := ⟨RX2, TX2, 2, rfl, by decide, zin2, zmem 137 (by decide +kernel) rfl, rfl⟩
theorem zf_X2_15 : zF RX2 15 1 1 := ⟨RX2, TX2, 2, rfl, by decide, zin2, zmem 138 (by decide +kernel) rfl, rfl⟩
theorem zfw_X2_15 : zFw RX2 15 1 1 .int := ⟨RX2, TX2, 2, tyX2, rfl, by decide, zin2, zmem 138 (by decide +kernel) rfl, rfl, tyX2_ok, nmX2, rfl, by decide +kernel⟩
theorem zf_X5_66 : zF RX5 66 1 1 := ⟨RX2, TX2, 2, rfl, by decide, zin2, zmem 139 (by decide +kernel) rfl, rfl⟩
theorem zfw_X5_66 : zFw RX5 66 1 1 .int := ⟨RX2, TX2, 2, tyX2, rfl, by decide, zin2, zmem 139 (by decide +kernel) rfl, rfl, tyX2_ok, nmX2, rfl, by decide +kernel⟩
theorem zf_X4_11 : zF RX4 11 3 0 := ⟨RX4, TX4, 1, rfl, by decide, zin4, zmem 159 (by decide +kernel) rfl, rfl⟩
theorem zf_X3_12 : zF RX3 12 2 0 := ⟨RX3, TX3, 6, rfl, by decide, zin3, zmem 163 (by decide +kernel) rfl, rfl⟩
theorem zf_X5_272 : zF RX5 272 2 0 := ⟨RX3, TX3, 6, rfl, by decide, zin3, zmem 164 (by decide +kernel) rfl, rfl⟩
theorem zf_X3_24 : zF RX3 24 2 1 := ⟨RX3, TX3, 6, rfl, by decide, zin3, zmem 165 (by decide +kernel) rfl, rfl⟩
theorem zf_X5_178 : zF RX5 178 2 1 := ⟨RX3, TX3, 6, rfl, by decide, zin3, zmem 166 (by decide +kernel) rfl, rfl⟩
theorem zf_X3_18 : zF RX3 18 2 2 := ⟨RX3, TX3, 6, rfl, by decide, zin3, zmem 167 (by decide +kernel) rfl, rfl⟩
theorem zf_X3_28 : zF RX3 28 2 3 := ⟨RX3, TX3, 6, rfl, by decide, zin3, zmem 168 (by decide +kernel) rfl, rfl⟩
theorem zf_X3_32 : zF RX3 32 2 4 := ⟨RX3, TX3, 6, rfl, by decide, zin3, zmem 169 (by decide +kernel) rfl, rfl⟩
theorem zf_X3_111 : zF RX3 111 2 5 := ⟨RX3, TX3, 6, rfl, by decide, zin3, zmem 170 (by decide +kernel) rfl, rfl⟩
theorem zfw_X3_111 : zFw RX3 111 2 5 .int := ⟨RX3, TX3, 6, tyX3, rfl, by decide, zin3, zmem 170 (by decide +kernel) rfl, rfl, tyX3_ok, nmX3, rfl, by decide +kernel⟩
theorem zf_X5_10 : zF RX5 10 4 0 := ⟨RX5, TX5, 9, rfl, by decide, zin5, zmem 184 (by decide +kernel) rfl, rfl⟩
theorem zf_X5_16 : zF RX5 16 4 1 := ⟨RX5, TX5, 9, rfl, by decide, zin5, zmem 185 (by decide +kernel) rfl, rfl⟩
theorem zf_X5_262 : zF RX5 262 4 2 := ⟨RX5, TX5, 9, rfl, by decide, zin5, zmem 186 (by decide +kernel) rfl, rfl⟩
theorem zfw_X5_262 : zFw RX5 262 4 2 .boolean := ⟨RX5, TX5, 9, tyX5, rfl, by decide, zin5, zmem 186 (by decide +kernel) rfl, rfl, tyX5_ok, nmX5, rfl, by decide +kernel⟩
theorem zf_X5_19 : zF RX5 19 4 3 := ⟨RX5, TX5, 9, rfl, by decide, zin5, zmem 187 (by decide +kernel) rfl, rfl⟩
theorem zf_X5_25 : zF RX5 25 4 4 := ⟨RX5, TX5, 9, rfl, by decide, zin5, zmem 188 (by decide +kernel) rfl, rfl⟩
theorem zf_X5_32 : zF RX5 32 4 5 := ⟨RX5, TX5, 9, rfl, by decide, zin5, zmem 189 (by decide +kernel) rfl, rfl⟩
theorem zf_X5_36 : zF RX5 36 4 6 := ⟨RX5, TX5, 9, rfl, by decide, zin5, zmem 190 (by decide +kernel) rfl, rfl⟩
theorem zf_X5_252 : zF RX5 252 4 7 := ⟨RX5, TX5, 9, rfl, by decide, zin5, zmem 191 (by decide +kernel) rfl, rfl⟩
theorem zfw_X5_252 : zFw RX5 252 4 7 .int := ⟨RX5, TX5, 9, tyX5, rfl, by decide, zin5, zmem 191 (by decide +kernel) rfl, rfl, tyX5_ok, nmX5, rfl, by decide +kernel⟩
theorem zf_X5_40 : zF RX5 40 4 8 := ⟨RX5, TX5, 9, rfl, by decide, zin5, zmem 192 (by decide +kernel) rfl, rfl⟩
theorem zf_X6_9 : zF RX6 9 5 0 := ⟨RX6, TX6, 18, rfl, by decide, zin6, zmem 866 (by decide +kernel) rfl, rfl⟩
theorem zf_X6_13 : zF RX6 13 5 1 := ⟨RX6, TX6, 18, rfl, by decide, zin6, zmem 867 (by decide +kernel) rfl, rfl⟩
theorem zf_X6_16 : zF RX6 16 5 2 := ⟨RX6, TX6, 18, rfl, by decide, zin6, zmem 868 (by decide +kernel) rfl, rfl⟩
theorem zf_X6_19 : zF RX6 19 5 3 := ⟨RX6, TX6, 18, rfl, by decide, zin6, zmem 869 (by decide +kernel) rfl, rfl⟩
theorem zf_X6_22 : zF RX6 22 5 4 := ⟨RX6, TX6, 18, rfl, by decide, zin6, zmem 870 (by decide +kernel) rfl, rfl⟩
theorem zf_X6_25 : zF RX6 25 5 5 := ⟨RX6, TX6, 18, rfl, by decide, zin6, zmem 871 (by decide +kernel) rfl, rfl⟩
theorem zf_X6_197 : zF RX6 197 5 6 := ⟨RX6, TX6, 18, rfl, by decide, zin6, zmem 872 (by decide +kernel) rfl, rfl⟩
theorem zfw_X6_197 : zFw RX6 197 5 6 .boolean := ⟨RX6, TX6, 18, tyX6, rfl, by decide, zin6, zmem 872 (by decide +kernel) rfl, rfl, tyX6_ok, nmX6, rfl, by decide +kernel⟩
theorem zf_X6_28 : zF RX6 28 5 7 := ⟨RX6, TX6, 18, rfl, by decide, zin6, zmem 873 (by decide +kernel) rfl, rfl⟩
theorem zf_X6_31 : zF RX6 31 5 8 := ⟨RX6, TX6, 18, rfl, by decide, zin6, zmem 874 (by decide +kernel) rfl, rfl⟩
theorem zf_X6_34 : zF RX6 34 5 9 := ⟨RX6, TX6, 18, rfl, by decide, zin6, zmem 875 (by decide +kernel) rfl, rfl⟩
theorem zf_X6_91 : zF RX6 91 5 10 := ⟨RX6, TX6, 18, rfl, by decide, zin6, zmem 876 (by decide +kernel) rfl, rfl⟩
theorem zfw_X6_91 : zFw RX6 91 5 10 .int := ⟨RX6, TX6, 18, tyX6, rfl, by decide, zin6, zmem 876 (by decide +kernel) rfl, rfl, tyX6_ok, nmX6, rfl, by decide +kernel⟩
theorem zf_X6_185 : zF RX6 185 5 11 := ⟨RX6, TX6, 18, rfl, by decide, zin6, zmem 877 (by decide +kernel) rfl, rfl⟩
theorem zfw_X6_185 : zFw RX6 185 5 11 .int := ⟨RX6, TX6, 18, tyX6, rfl, by decide, zin6, zmem 877 (by decide +kernel) rfl, rfl, tyX6_ok, nmX6, rfl, by decide +kernel⟩
theorem zf_X6_95 : zF RX6 95 5 12 := ⟨RX6, TX6, 18, rfl, by decide, zin6, zmem 878 (by decide +kernel) rfl, rfl⟩
theorem zfw_X6_95 : zFw RX6 95 5 12 .int := ⟨RX6, TX6, 18, tyX6, rfl, by decide, zin6, zmem 878 (by decide +kernel) rfl, rfl, tyX6_ok, nmX6, rfl, by decide +kernel⟩
theorem zf_X6_37 : zF RX6 37 5 13 := ⟨RX6, TX6, 18, rfl, by decide, zin6, zmem 879 (by decide +kernel) rfl, rfl⟩
theorem zf_X6_40 : zF RX6 40 5 14 := ⟨RX6, TX6, 18, rfl, by decide, zin6, zmem 880 (by decide +kernel) rfl, rfl⟩
theorem zf_X6_43 : zF RX6 43 5 15 := ⟨RX6, TX6, 18, rfl, by decide, zin6, zmem 881 (by decide +kernel) rfl, rfl⟩
theorem zf_X6_148 : zF RX6 148 5 16 := ⟨RX6, TX6, 18, rfl, by decide, zin6, zmem 882 (by decide +kernel) rfl, rfl⟩
theorem zfw_X6_148 : zFw RX6 148 5 16 .int := ⟨RX6, TX6, 18, tyX6, rfl, by decide, zin6, zmem 882 (by decide +kernel) rfl, rfl, tyX6_ok, nmX6, rfl, by decide +kernel⟩
theorem zf_X6_188 : zF RX6 188 5 17 := ⟨RX6, TX6, 18, rfl, by decide, zin6, zmem 883 (by decide +kernel) rfl, rfl⟩
theorem zfw_X6_188 : zFw RX6 188 5 17 .int := ⟨RX6, TX6, 18, tyX6, rfl, by decide, zin6, zmem 883 (by decide +kernel) rfl, rfl, tyX6_ok, nmX6, rfl, by decide +kernel⟩
