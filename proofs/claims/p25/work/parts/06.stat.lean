theorem tw_all (wl : List Cond) (ps : List Nat) (hp : wl = ps.filterMap (fun i => lw_tbl[i]?)) (h : wl.all tWord = true) : ∀ w ∈ wl, w ∈ TW := by
  intro w hw
  have h1 := List.all_eq_true.mp h w hw
  rw [hp] at hw
  obtain ⟨i, -, hi⟩ := List.mem_filterMap.mp hw
  exact tw_in i hi h1
theorem tw_b1 {w : Cond} (i : Nat) (h : tables_1_1[i]? = some w) (hg : tWord w = true) : w ∈ TW := List.mem_filter.mpr ⟨(show w ∈ k2_sels lw_privs ++ (tables_1_1 ++ (tables_1_2 ++ (tables_1_3 ++ (tables_1_4 ++ (tables_1_5 ++ tables_1_6))))) from List.mem_append_right _ (List.mem_append_left _ (List.mem_of_getElem? h))), hg⟩
theorem tw_b2 {w : Cond} (i : Nat) (h : tables_1_2[i]? = some w) (hg : tWord w = true) : w ∈ TW := List.mem_filter.mpr ⟨(show w ∈ k2_sels lw_privs ++ (tables_1_1 ++ (tables_1_2 ++ (tables_1_3 ++ (tables_1_4 ++ (tables_1_5 ++ tables_1_6))))) from List.mem_append_right _ (List.mem_append_right _ (List.mem_append_left _ (List.mem_of_getElem? h)))), hg⟩
theorem tw_b3 {w : Cond} (i : Nat) (h : tables_1_3[i]? = some w) (hg : tWord w = true) : w ∈ TW := List.mem_filter.mpr ⟨(show w ∈ k2_sels lw_privs ++ (tables_1_1 ++ (tables_1_2 ++ (tables_1_3 ++ (tables_1_4 ++ (tables_1_5 ++ tables_1_6))))) from List.mem_append_right _ (List.mem_append_right _ (List.mem_append_right _ (List.mem_append_left _ (List.mem_of_getElem? h))))), hg⟩
theorem tw_b4 {w : Cond} (i : Nat) (h : tables_1_4[i]? = some w) (hg : tWord w = true) : w ∈ TW := List.mem_filter.mpr ⟨(show w ∈ k2_sels lw_privs ++ (tables_1_1 ++ (tables_1_2 ++ (tables_1_3 ++ (tables_1_4 ++ (tables_1_5 ++ tables_1_6))))) from List.mem_append_right _ (List.mem_append_right _ (List.mem_append_right _ (List.mem_append_right _ (List.mem_append_left _ (List.mem_of_getElem? h)))))), hg⟩
theorem tw_b5 {w : Cond} (i : Nat) (h : tables_1_5[i]? = some w) (hg : tWord w = true) : w ∈ TW := List.mem_filter.mpr ⟨(show w ∈ k2_sels lw_privs ++ (tables_1_1 ++ (tables_1_2 ++ (tables_1_3 ++ (tables_1_4 ++ (tables_1_5 ++ tables_1_6))))) from List.mem_append_right _ (List.mem_append_right _ (List.mem_append_right _ (List.mem_append_right _ (List.mem_append_right _ (List.mem_append_left _ (List.mem_of_getElem? h))))))), hg⟩
theorem tw_b6 {w : Cond} (i : Nat) (h : tables_1_6[i]? = some w) (hg : tWord w = true) : w ∈ TW := List.mem_filter.mpr ⟨(show w ∈ k2_sels lw_privs ++ (tables_1_1 ++ (tables_1_2 ++ (tables_1_3 ++ (tables_1_4 ++ (tables_1_5 ++ tables_1_6))))) from List.mem_append_right _ (List.mem_append_right _ (List.mem_append_right _ (List.mem_append_right _ (List.mem_append_right _ (List.mem_append_right _ (List.mem_of_getElem? h))))))), hg⟩
theorem inW0 : ∀ w ∈ u_ws RX0 TX0 13, w ∈ TW := tw_all _ [324, 326, 328, 330, 332, 334, 336, 338, 340, 342, 344, 346, 348] (by decide +kernel) (by decide +kernel)
theorem inW1 : ∀ w ∈ u_ws RX1 TX1 2, w ∈ TW := tw_all _ [300, 302] (by decide +kernel) (by decide +kernel)
theorem inW2 : ∀ w ∈ u_ws RX2 TX2 2, w ∈ TW := tw_all _ [279, 281] (by decide +kernel) (by decide +kernel)
theorem inW3 : ∀ w ∈ u_ws RX3 TX3 3, w ∈ TW := tw_all _ [251, 253, 255] (by decide +kernel) (by decide +kernel)
theorem inW4 : ∀ w ∈ u_ws RX4 TX4 6, w ∈ TW := tw_all _ [215, 217, 219, 221, 223, 225] (by decide +kernel) (by decide +kernel)
theorem inW5 : ∀ w ∈ u_ws RX5 TX5 3, w ∈ TW := tw_all _ [365, 367, 369] (by decide +kernel) (by decide +kernel)
theorem inW6 : ∀ w ∈ u_ws RX6 TX6 7, w ∈ TW := tw_all _ [188, 190, 192, 194, 196, 198, 200] (by decide +kernel) (by decide +kernel)
theorem inW7 : ∀ w ∈ u_ws RX7 TX7 6, w ∈ TW := tw_all _ [390, 392, 394, 396, 398, 400] (by decide +kernel) (by decide +kernel)
theorem inW8 : ∀ w ∈ u_ws RX8 TX8 2, w ∈ TW := tw_all _ [262, 264] (by decide +kernel) (by decide +kernel)
theorem inW9 : ∀ w ∈ u_ws RX9 TX9 2, w ∈ TW := tw_all _ [139, 141] (by decide +kernel) (by decide +kernel)
theorem inW10 : ∀ w ∈ u_ws RX10 TX10 14, w ∈ TW := tw_all _ [419, 421, 423, 425, 427, 429, 431, 433, 435, 437, 439, 441, 443, 445] (by decide +kernel) (by decide +kernel)
theorem inW11 : ∀ w ∈ u_ws RX11 TX11 33, w ∈ TW := tw_all _ [1073, 1075, 1077, 1079, 1081, 1083, 1085, 1087, 1089, 1091, 1093, 1095, 1097, 1099, 1101, 1103, 1105, 1107, 1109, 1111, 1113, 1115, 1117, 1119, 1121, 1123, 1125, 1127, 1129, 1131, 1133, 1135, 1137] (by decide +kernel) (by decide +kernel)
theorem fp_RX10_10 : FP RX10 10 10 0 true (.object "OverflowGuards$Text") := ⟨RX10, TX10, 14, tyX10, rfl, by decide, rfl, inW10, Or.inl (tw_b2 65 (by decide +kernel) (by decide +kernel)), tyX10_ok, nmX10, rfl, by decide +kernel⟩
theorem fp_RX10_19 : FP RX10 19 10 1 true (.object "OverflowGuards$Program") := ⟨RX10, TX10, 14, tyX10, rfl, by decide, rfl, inW10, Or.inl (tw_b2 66 (by decide +kernel) (by decide +kernel)), tyX10_ok, nmX10, rfl, by decide +kernel⟩
theorem fp_RX10_28 : FP RX10 28 10 2 true (.object "OverflowGuards$Parser") := ⟨RX10, TX10, 14, tyX10, rfl, by decide, rfl, inW10, Or.inl (tw_b2 67 (by decide +kernel) (by decide +kernel)), tyX10_ok, nmX10, rfl, by decide +kernel⟩
theorem fp_RX10_35 : FP RX10 35 10 3 true (.object "OverflowGuards$Situation") := ⟨RX10, TX10, 14, tyX10, rfl, by decide, rfl, inW10, Or.inl (tw_b2 68 (by decide +kernel) (by decide +kernel)), tyX10_ok, nmX10, rfl, by decide +kernel⟩
theorem fp_RX10_42 : FP RX10 42 10 4 true (.object "OverflowGuards$History") := ⟨RX10, TX10, 14, tyX10, rfl, by decide, rfl, inW10, Or.inl (tw_b2 69 (by decide +kernel) (by decide +kernel)), tyX10_ok, nmX10, rfl, by decide +kernel⟩
theorem fp_RX10_49 : FP RX10 49 10 5 true (.object "OverflowGuards$Analysis") := ⟨RX10, TX10, 14, tyX10, rfl, by decide, rfl, inW10, Or.inl (tw_b2 70 (by decide +kernel) (by decide +kernel)), tyX10_ok, nmX10, rfl, by decide +kernel⟩
theorem fp_RX10_56 : FP RX10 56 10 6 true (.object "OverflowGuards$Plan") := ⟨RX10, TX10, 14, tyX10, rfl, by decide, rfl, inW10, Or.inl (tw_b2 71 (by decide +kernel) (by decide +kernel)), tyX10_ok, nmX10, rfl, by decide +kernel⟩
theorem fp_RX10_63 : FP RX10 63 10 7 true (.object "OverflowGuards$Run") := ⟨RX10, TX10, 14, tyX10, rfl, by decide, rfl, inW10, Or.inl (tw_b2 72 (by decide +kernel) (by decide +kernel)), tyX10_ok, nmX10, rfl, by decide +kernel⟩
theorem fp_RX10_67 : FP RX10 67 10 8 true (.object "OverflowGuards$Run") := ⟨RX10, TX10, 14, tyX10, rfl, by decide, rfl, inW10, Or.inl (tw_b2 73 (by decide +kernel) (by decide +kernel)), tyX10_ok, nmX10, rfl, by decide +kernel⟩
theorem fp_RX10_70 : FP RX10 70 10 9 false (.boolean) := ⟨RX10, TX10, 14, tyX10, rfl, by decide, rfl, inW10, Or.inl (tw_b2 74 (by decide +kernel) (by decide +kernel)), tyX10_ok, nmX10, rfl, by decide +kernel⟩
theorem fp_RX10_74 : FP RX10 74 10 10 false (.boolean) := ⟨RX10, TX10, 14, tyX10, rfl, by decide, rfl, inW10, Or.inl (tw_b2 75 (by decide +kernel) (by decide +kernel)), tyX10_ok, nmX10, rfl, by decide +kernel⟩
theorem fp_RX10_80 : FP RX10 80 10 11 true (.object "OverflowGuards$Inputs") := ⟨RX10, TX10, 14, tyX10, rfl, by decide, rfl, inW10, Or.inl (tw_b2 76 (by decide +kernel) (by decide +kernel)), tyX10_ok, nmX10, rfl, by decide +kernel⟩
theorem fp_RX10_84 : FP RX10 84 10 12 true (.object "OverflowGuards$Analysis") := ⟨RX10, TX10, 14, tyX10, rfl, by decide, rfl, inW10, Or.inl (tw_b2 77 (by decide +kernel) (by decide +kernel)), tyX10_ok, nmX10, rfl, by decide +kernel⟩
theorem fp_RX10_87 : FP RX10 87 10 13 true (.object "OverflowGuards$Run") := ⟨RX10, TX10, 14, tyX10, rfl, by decide, rfl, inW10, Or.inl (tw_b2 78 (by decide +kernel) (by decide +kernel)), tyX10_ok, nmX10, rfl, by decide +kernel⟩
theorem fp_RX10_97 : FP RX10 97 9 1 false (.int) := ⟨RX9, TX9, 2, tyX9, rfl, by decide, rfl, inW9, Or.inr ⟨"OverflowGuards", tw_b1 37 (by decide +kernel) (by decide +kernel)⟩, tyX9_ok, nmX9, rfl, by decide +kernel⟩
theorem fp_RX10_117 : FP RX10 117 8 0 true (.object "OverflowGuards$Program") := ⟨RX8, TX8, 2, tyX8, rfl, by decide, rfl, inW8, Or.inr ⟨"OverflowGuards", tw_b1 159 (by decide +kernel) (by decide +kernel)⟩, tyX8_ok, nmX8, rfl, by decide +kernel⟩
theorem fp_RX10_124 : FP RX10 124 6 0 false (.int) := ⟨RX6, TX6, 7, tyX6, rfl, by decide, rfl, inW6, Or.inr ⟨"OverflowGuards", tw_b1 56 (by decide +kernel) (by decide +kernel)⟩, tyX6_ok, nmX6, rfl, by decide +kernel⟩
theorem fp_RX10_134 : FP RX10 134 8 1 true (.object "OverflowGuards$Inputs") := ⟨RX8, TX8, 2, tyX8, rfl, by decide, rfl, inW8, Or.inr ⟨"OverflowGuards", tw_b1 161 (by decide +kernel) (by decide +kernel)⟩, tyX8_ok, nmX8, rfl, by decide +kernel⟩
theorem fp_RX10_141 : FP RX10 141 3 0 true (.array .int) := ⟨RX3, TX3, 3, tyX3, rfl, by decide, rfl, inW3, Or.inr ⟨"OverflowGuards", tw_b1 144 (by decide +kernel) (by decide +kernel)⟩, tyX3_ok, nmX3, rfl, by decide +kernel⟩
theorem fp_RX10_145 : FP RX10 145 3 1 true (.array .int) := ⟨RX3, TX3, 3, tyX3, rfl, by decide, rfl, inW3, Or.inr ⟨"OverflowGuards", tw_b1 147 (by decide +kernel) (by decide +kernel)⟩, tyX3_ok, nmX3, rfl, by decide +kernel⟩
theorem fp_RX10_150 : FP RX10 150 3 2 true (.array .int) := ⟨RX3, TX3, 3, tyX3, rfl, by decide, rfl, inW3, Or.inr ⟨"OverflowGuards", tw_b1 150 (by decide +kernel) (by decide +kernel)⟩, tyX3_ok, nmX3, rfl, by decide +kernel⟩
theorem fp_RX10_164 : FP RX10 164 6 1 true (.array .int) := ⟨RX6, TX6, 7, tyX6, rfl, by decide, rfl, inW6, Or.inr ⟨"OverflowGuards", tw_b1 62 (by decide +kernel) (by decide +kernel)⟩, tyX6_ok, nmX6, rfl, by decide +kernel⟩
theorem fp_RX10_167 : FP RX10 167 6 2 true (.array .int) := ⟨RX6, TX6, 7, tyX6, rfl, by decide, rfl, inW6, Or.inr ⟨"OverflowGuards", tw_b1 68 (by decide +kernel) (by decide +kernel)⟩, tyX6_ok, nmX6, rfl, by decide +kernel⟩
theorem fp_RX10_170 : FP RX10 170 6 5 true (.array .int) := ⟨RX6, TX6, 7, tyX6, rfl, by decide, rfl, inW6, Or.inr ⟨"OverflowGuards", tw_b1 82 (by decide +kernel) (by decide +kernel)⟩, tyX6_ok, nmX6, rfl, by decide +kernel⟩
theorem fp_RX10_173 : FP RX10 173 6 6 true (.array .int) := ⟨RX6, TX6, 7, tyX6, rfl, by decide, rfl, inW6, Or.inr ⟨"OverflowGuards", tw_b1 87 (by decide +kernel) (by decide +kernel)⟩, tyX6_ok, nmX6, rfl, by decide +kernel⟩
theorem fp_RX10_178 : FP RX10 178 6 4 true (.array .int) := ⟨RX6, TX6, 7, tyX6, rfl, by decide, rfl, inW6, Or.inr ⟨"OverflowGuards", tw_b1 78 (by decide +kernel) (by decide +kernel)⟩, tyX6_ok, nmX6, rfl, by decide +kernel⟩
theorem fp_RX10_181 : FP RX10 181 6 3 true (.array .int) := ⟨RX6, TX6, 7, tyX6, rfl, by decide, rfl, inW6, Or.inr ⟨"OverflowGuards", tw_b1 73 (by decide +kernel) (by decide +kernel)⟩, tyX6_ok, nmX6, rfl, by decide +kernel⟩
theorem fp_RX10_187 : FP RX10 187 5 0 true (.array .int) := ⟨RX5, TX5, 3, tyX5, rfl, by decide, rfl, inW5, Or.inr ⟨"OverflowGuards", tw_b2 21 (by decide +kernel) (by decide +kernel)⟩, tyX5_ok, nmX5, rfl, by decide +kernel⟩
theorem fp_RX10_192 : FP RX10 192 5 1 true (.array .int) := ⟨RX5, TX5, 3, tyX5, rfl, by decide, rfl, inW5, Or.inr ⟨"OverflowGuards", tw_b2 23 (by decide +kernel) (by decide +kernel)⟩, tyX5_ok, nmX5, rfl, by decide +kernel⟩
theorem fp_RX10_195 : FP RX10 195 0 9 true (.array .long) := ⟨RX0, TX0, 13, tyX0, rfl, by decide, rfl, inW0, Or.inr ⟨"OverflowGuards", tw_b1 220 (by decide +kernel) (by decide +kernel)⟩, tyX0_ok, nmX0, rfl, by decide +kernel⟩
theorem fp_RX10_199 : FP RX10 199 0 8 true (.array .long) := ⟨RX0, TX0, 13, tyX0, rfl, by decide, rfl, inW0, Or.inr ⟨"OverflowGuards", tw_b1 218 (by decide +kernel) (by decide +kernel)⟩, tyX0_ok, nmX0, rfl, by decide +kernel⟩
theorem fp_RX10_209 : FP RX10 209 0 1 false (.boolean) := ⟨RX0, TX0, 13, tyX0, rfl, by decide, rfl, inW0, Or.inr ⟨"OverflowGuards", tw_b1 207 (by decide +kernel) (by decide +kernel)⟩, tyX0_ok, nmX0, rfl, by decide +kernel⟩
theorem fp_RX10_219 : FP RX10 219 7 2 false (.int) := ⟨RX7, TX7, 6, tyX7, rfl, by decide, rfl, inW7, Or.inr ⟨"OverflowGuards", tw_b2 44 (by decide +kernel) (by decide +kernel)⟩, tyX7_ok, nmX7, rfl, by decide +kernel⟩
theorem fp_RX10_222 : FP RX10 222 7 1 true (.array .long) := ⟨RX7, TX7, 6, tyX7, rfl, by decide, rfl, inW7, Or.inr ⟨"OverflowGuards", tw_b2 42 (by decide +kernel) (by decide +kernel)⟩, tyX7_ok, nmX7, rfl, by decide +kernel⟩
theorem fp_RX10_225 : FP RX10 225 7 3 false (.int) := ⟨RX7, TX7, 6, tyX7, rfl, by decide, rfl, inW7, Or.inr ⟨"OverflowGuards", tw_b2 46 (by decide +kernel) (by decide +kernel)⟩, tyX7_ok, nmX7, rfl, by decide +kernel⟩
theorem fp_RX10_228 : FP RX10 228 7 4 false (.int) := ⟨RX7, TX7, 6, tyX7, rfl, by decide, rfl, inW7, Or.inr ⟨"OverflowGuards", tw_b2 48 (by decide +kernel) (by decide +kernel)⟩, tyX7_ok, nmX7, rfl, by decide +kernel⟩
theorem fp_RX10_257 : FP RX10 257 2 0 false (.int) := ⟨RX2, TX2, 2, tyX2, rfl, by decide, rfl, inW2, Or.inr ⟨"OverflowGuards", tw_b1 177 (by decide +kernel) (by decide +kernel)⟩, tyX2_ok, nmX2, rfl, by decide +kernel⟩
theorem fp_RX10_322 : FP RX10 322 0 2 false (.int) := ⟨RX0, TX0, 13, tyX0, rfl, by decide, rfl, inW0, Or.inr ⟨"OverflowGuards", tw_b1 209 (by decide +kernel) (by decide +kernel)⟩, tyX0_ok, nmX0, rfl, by decide +kernel⟩
theorem fp_RX0_12 : FP RX0 12 0 0 true (.object "OverflowGuards$Cursor") := ⟨RX0, TX0, 13, tyX0, rfl, by decide, rfl, inW0, Or.inl (tw_b1 205 (by decide +kernel) (by decide +kernel)), tyX0_ok, nmX0, rfl, by decide +kernel⟩
theorem fp_RX0_18 : FP RX0 18 0 1 false (.boolean) := ⟨RX0, TX0, 13, tyX0, rfl, by decide, rfl, inW0, Or.inl (tw_b1 206 (by decide +kernel) (by decide +kernel)), tyX0_ok, nmX0, rfl, by decide +kernel⟩
theorem fp_RX0_22 : FP RX0 22 0 2 false (.int) := ⟨RX0, TX0, 13, tyX0, rfl, by decide, rfl, inW0, Or.inl (tw_b1 208 (by decide +kernel) (by decide +kernel)), tyX0_ok, nmX0, rfl, by decide +kernel⟩
theorem fp_RX0_26 : FP RX0 26 0 3 true (.array .long) := ⟨RX0, TX0, 13, tyX0, rfl, by decide, rfl, inW0, Or.inl (tw_b1 210 (by decide +kernel) (by decide +kernel)), tyX0_ok, nmX0, rfl, by decide +kernel⟩
theorem fp_RX0_30 : FP RX0 30 0 4 true (.array .long) := ⟨RX0, TX0, 13, tyX0, rfl, by decide, rfl, inW0, Or.inl (tw_b1 211 (by decide +kernel) (by decide +kernel)), tyX0_ok, nmX0, rfl, by decide +kernel⟩
theorem fp_RX0_33 : FP RX0 33 0 5 false (.int) := ⟨RX0, TX0, 13, tyX0, rfl, by decide, rfl, inW0, Or.inl (tw_b1 212 (by decide +kernel) (by decide +kernel)), tyX0_ok, nmX0, rfl, by decide +kernel⟩
theorem fp_RX0_36 : FP RX0 36 0 6 true (.array .boolean) := ⟨RX0, TX0, 13, tyX0, rfl, by decide, rfl, inW0, Or.inl (tw_b1 213 (by decide +kernel) (by decide +kernel)), tyX0_ok, nmX0, rfl, by decide +kernel⟩
theorem fp_RX0_40 : FP RX0 40 0 7 true (.array .boolean) := ⟨RX0, TX0, 13, tyX0, rfl, by decide, rfl, inW0, Or.inl (tw_b1 215 (by decide +kernel) (by decide +kernel)), tyX0_ok, nmX0, rfl, by decide +kernel⟩
theorem fp_RX0_43 : FP RX0 43 0 8 true (.array .long) := ⟨RX0, TX0, 13, tyX0, rfl, by decide, rfl, inW0, Or.inl (tw_b1 217 (by decide +kernel) (by decide +kernel)), tyX0_ok, nmX0, rfl, by decide +kernel⟩
theorem fp_RX0_46 : FP RX0 46 0 9 true (.array .long) := ⟨RX0, TX0, 13, tyX0, rfl, by decide, rfl, inW0, Or.inl (tw_b1 219 (by decide +kernel) (by decide +kernel)), tyX0_ok, nmX0, rfl, by decide +kernel⟩
theorem fp_RX0_49 : FP RX0 49 0 10 true (.array .int) := ⟨RX0, TX0, 13, tyX0, rfl, by decide, rfl, inW0, Or.inl (tw_b1 221 (by decide +kernel) (by decide +kernel)), tyX0_ok, nmX0, rfl, by decide +kernel⟩
theorem fp_RX0_53 : FP RX0 53 0 11 false (.long) := ⟨RX0, TX0, 13, tyX0, rfl, by decide, rfl, inW0, Or.inl (tw_b1 222 (by decide +kernel) (by decide +kernel)), tyX0_ok, nmX0, rfl, by decide +kernel⟩
theorem fp_RX0_57 : FP RX0 57 0 12 false (.long) := ⟨RX0, TX0, 13, tyX0, rfl, by decide, rfl, inW0, Or.inl (tw_b1 223 (by decide +kernel) (by decide +kernel)), tyX0_ok, nmX0, rfl, by decide +kernel⟩
theorem fp_RX0_65 : FP RX0 65 1 0 false (.int) := ⟨RX1, TX1, 2, tyX1, rfl, by decide, rfl, inW1, Or.inr ⟨"OverflowGuards", tw_b1 197 (by decide +kernel) (by decide +kernel)⟩, tyX1_ok, nmX1, rfl, by decide +kernel⟩
theorem fp_RX0_68 : FP RX0 68 6 0 false (.int) := ⟨RX6, TX6, 7, tyX6, rfl, by decide, rfl, inW6, Or.inr ⟨"OverflowGuards", tw_b1 54 (by decide +kernel) (by decide +kernel)⟩, tyX6_ok, nmX6, rfl, by decide +kernel⟩
theorem fp_RX0_85 : FP RX0 85 3 0 true (.array .int) := ⟨RX3, TX3, 3, tyX3, rfl, by decide, rfl, inW3, Or.inr ⟨"OverflowGuards", tw_b1 143 (by decide +kernel) (by decide +kernel)⟩, tyX3_ok, nmX3, rfl, by decide +kernel⟩
theorem fp_RX0_89 : FP RX0 89 3 1 true (.array .int) := ⟨RX3, TX3, 3, tyX3, rfl, by decide, rfl, inW3, Or.inr ⟨"OverflowGuards", tw_b1 146 (by decide +kernel) (by decide +kernel)⟩, tyX3_ok, nmX3, rfl, by decide +kernel⟩
theorem fp_RX0_95 : FP RX0 95 6 1 true (.array .int) := ⟨RX6, TX6, 7, tyX6, rfl, by decide, rfl, inW6, Or.inr ⟨"OverflowGuards", tw_b1 61 (by decide +kernel) (by decide +kernel)⟩, tyX6_ok, nmX6, rfl, by decide +kernel⟩
theorem fp_RX0_98 : FP RX0 98 6 3 true (.array .int) := ⟨RX6, TX6, 7, tyX6, rfl, by decide, rfl, inW6, Or.inr ⟨"OverflowGuards", tw_b1 70 (by decide +kernel) (by decide +kernel)⟩, tyX6_ok, nmX6, rfl, by decide +kernel⟩
theorem fp_RX0_101 : FP RX0 101 6 4 true (.array .int) := ⟨RX6, TX6, 7, tyX6, rfl, by decide, rfl, inW6, Or.inr ⟨"OverflowGuards", tw_b1 75 (by decide +kernel) (by decide +kernel)⟩, tyX6_ok, nmX6, rfl, by decide +kernel⟩
theorem fp_RX0_131 : FP RX0 131 6 2 true (.array .int) := ⟨RX6, TX6, 7, tyX6, rfl, by decide, rfl, inW6, Or.inr ⟨"OverflowGuards", tw_b1 66 (by decide +kernel) (by decide +kernel)⟩, tyX6_ok, nmX6, rfl, by decide +kernel⟩
theorem fp_RX1_9 : FP RX1 9 1 0 false (.int) := ⟨RX1, TX1, 2, tyX1, rfl, by decide, rfl, inW1, Or.inl (tw_b1 196 (by decide +kernel) (by decide +kernel)), tyX1_ok, nmX1, rfl, by decide +kernel⟩
theorem fp_RX1_15 : FP RX1 15 1 1 true (.array .int) := ⟨RX1, TX1, 2, tyX1, rfl, by decide, rfl, inW1, Or.inl (tw_b1 199 (by decide +kernel) (by decide +kernel)), tyX1_ok, nmX1, rfl, by decide +kernel⟩
theorem fp_RX1_19 : FP RX1 19 6 5 true (.array .int) := ⟨RX6, TX6, 7, tyX6, rfl, by decide, rfl, inW6, Or.inr ⟨"OverflowGuards", tw_b1 80 (by decide +kernel) (by decide +kernel)⟩, tyX6_ok, nmX6, rfl, by decide +kernel⟩
theorem fp_RX1_24 : FP RX1 24 6 1 true (.array .int) := ⟨RX6, TX6, 7, tyX6, rfl, by decide, rfl, inW6, Or.inr ⟨"OverflowGuards", tw_b1 58 (by decide +kernel) (by decide +kernel)⟩, tyX6_ok, nmX6, rfl, by decide +kernel⟩
theorem fp_RX1_27 : FP RX1 27 6 2 true (.array .int) := ⟨RX6, TX6, 7, tyX6, rfl, by decide, rfl, inW6, Or.inr ⟨"OverflowGuards", tw_b1 64 (by decide +kernel) (by decide +kernel)⟩, tyX6_ok, nmX6, rfl, by decide +kernel⟩
theorem fp_RX1_30 : FP RX1 30 6 6 true (.array .int) := ⟨RX6, TX6, 7, tyX6, rfl, by decide, rfl, inW6, Or.inr ⟨"OverflowGuards", tw_b1 84 (by decide +kernel) (by decide +kernel)⟩, tyX6_ok, nmX6, rfl, by decide +kernel⟩
theorem fp_RX2_9 : FP RX2 9 2 0 false (.int) := ⟨RX2, TX2, 2, tyX2, rfl, by decide, rfl, inW2, Or.inl (tw_b1 176 (by decide +kernel) (by decide +kernel)), tyX2_ok, nmX2, rfl, by decide +kernel⟩
theorem fp_RX2_17 : FP RX2 17 2 1 true (.array (.object "OverflowGuards$Situation")) := ⟨RX2, TX2, 2, tyX2, rfl, by decide, rfl, inW2, Or.inl (tw_b1 178 (by decide +kernel) (by decide +kernel)), tyX2_ok, nmX2, rfl, by decide +kernel⟩
theorem fp_RX3_9 : FP RX3 9 3 0 true (.array .int) := ⟨RX3, TX3, 3, tyX3, rfl, by decide, rfl, inW3, Or.inl (tw_b1 142 (by decide +kernel) (by decide +kernel)), tyX3_ok, nmX3, rfl, by decide +kernel⟩
theorem fp_RX3_15 : FP RX3 15 3 1 true (.array .int) := ⟨RX3, TX3, 3, tyX3, rfl, by decide, rfl, inW3, Or.inl (tw_b1 145 (by decide +kernel) (by decide +kernel)), tyX3_ok, nmX3, rfl, by decide +kernel⟩
theorem fp_RX3_18 : FP RX3 18 3 2 true (.array .int) := ⟨RX3, TX3, 3, tyX3, rfl, by decide, rfl, inW3, Or.inl (tw_b1 148 (by decide +kernel) (by decide +kernel)), tyX3_ok, nmX3, rfl, by decide +kernel⟩
theorem fp_RX4_9 : FP RX4 9 4 2 false (.int) := ⟨RX4, TX4, 6, tyX4, rfl, by decide, rfl, inW4, Or.inl (tw_b1 111 (by decide +kernel) (by decide +kernel)), tyX4_ok, nmX4, rfl, by decide +kernel⟩
theorem fp_RX4_15 : FP RX4 15 4 3 false (.int) := ⟨RX4, TX4, 6, tyX4, rfl, by decide, rfl, inW4, Or.inl (tw_b1 112 (by decide +kernel) (by decide +kernel)), tyX4_ok, nmX4, rfl, by decide +kernel⟩
theorem fp_RX4_18 : FP RX4 18 4 4 false (.int) := ⟨RX4, TX4, 6, tyX4, rfl, by decide, rfl, inW4, Or.inl (tw_b1 113 (by decide +kernel) (by decide +kernel)), tyX4_ok, nmX4, rfl, by decide +kernel⟩
theorem fp_RX4_21 : FP RX4 21 4 5 true (.array .int) := ⟨RX4, TX4, 6, tyX4, rfl, by decide, rfl, inW4, Or.inl (tw_b1 114 (by decide +kernel) (by decide +kernel)), tyX4_ok, nmX4, rfl, by decide +kernel⟩
theorem fp_RX4_25 : FP RX4 25 4 0 true (.object "OverflowGuards$Text") := ⟨RX4, TX4, 6, tyX4, rfl, by decide, rfl, inW4, Or.inl (tw_b1 109 (by decide +kernel) (by decide +kernel)), tyX4_ok, nmX4, rfl, by decide +kernel⟩
theorem fp_RX4_29 : FP RX4 29 4 1 true (.object "OverflowGuards$Program") := ⟨RX4, TX4, 6, tyX4, rfl, by decide, rfl, inW4, Or.inl (tw_b1 110 (by decide +kernel) (by decide +kernel)), tyX4_ok, nmX4, rfl, by decide +kernel⟩
theorem fp_RX4_33 : FP RX4 33 6 0 false (.int) := ⟨RX6, TX6, 7, tyX6, rfl, by decide, rfl, inW6, Or.inr ⟨"OverflowGuards", tw_b1 52 (by decide +kernel) (by decide +kernel)⟩, tyX6_ok, nmX6, rfl, by decide +kernel⟩
theorem fp_RX4_38 : FP RX4 38 9 1 false (.int) := ⟨RX9, TX9, 2, tyX9, rfl, by decide, rfl, inW9, Or.inr ⟨"OverflowGuards", tw_b1 38 (by decide +kernel) (by decide +kernel)⟩, tyX9_ok, nmX9, rfl, by decide +kernel⟩
theorem fp_RX5_9 : FP RX5 9 5 0 true (.array .int) := ⟨RX5, TX5, 3, tyX5, rfl, by decide, rfl, inW5, Or.inl (tw_b2 19 (by decide +kernel) (by decide +kernel)), tyX5_ok, nmX5, rfl, by decide +kernel⟩
theorem fp_RX5_15 : FP RX5 15 5 1 true (.array .int) := ⟨RX5, TX5, 3, tyX5, rfl, by decide, rfl, inW5, Or.inl (tw_b2 22 (by decide +kernel) (by decide +kernel)), tyX5_ok, nmX5, rfl, by decide +kernel⟩
theorem fp_RX5_18 : FP RX5 18 5 2 true (.array .boolean) := ⟨RX5, TX5, 3, tyX5, rfl, by decide, rfl, inW5, Or.inl (tw_b2 24 (by decide +kernel) (by decide +kernel)), tyX5_ok, nmX5, rfl, by decide +kernel⟩
theorem fp_RX5_22 : FP RX5 22 6 0 false (.int) := ⟨RX6, TX6, 7, tyX6, rfl, by decide, rfl, inW6, Or.inr ⟨"OverflowGuards", tw_b1 55 (by decide +kernel) (by decide +kernel)⟩, tyX6_ok, nmX6, rfl, by decide +kernel⟩
theorem fp_RX5_39 : FP RX5 39 0 6 true (.array .boolean) := ⟨RX0, TX0, 13, tyX0, rfl, by decide, rfl, inW0, Or.inr ⟨"OverflowGuards", tw_b1 214 (by decide +kernel) (by decide +kernel)⟩, tyX0_ok, nmX0, rfl, by decide +kernel⟩
theorem fp_RX5_44 : FP RX5 44 0 7 true (.array .boolean) := ⟨RX0, TX0, 13, tyX0, rfl, by decide, rfl, inW0, Or.inr ⟨"OverflowGuards", tw_b1 216 (by decide +kernel) (by decide +kernel)⟩, tyX0_ok, nmX0, rfl, by decide +kernel⟩
theorem fp_RX5_51 : FP RX5 51 6 1 true (.array .int) := ⟨RX6, TX6, 7, tyX6, rfl, by decide, rfl, inW6, Or.inr ⟨"OverflowGuards", tw_b1 60 (by decide +kernel) (by decide +kernel)⟩, tyX6_ok, nmX6, rfl, by decide +kernel⟩
theorem fp_RX5_64 : FP RX5 64 6 2 true (.array .int) := ⟨RX6, TX6, 7, tyX6, rfl, by decide, rfl, inW6, Or.inr ⟨"OverflowGuards", tw_b1 65 (by decide +kernel) (by decide +kernel)⟩, tyX6_ok, nmX6, rfl, by decide +kernel⟩
theorem fp_RX5_75 : FP RX5 75 6 3 true (.array .int) := ⟨RX6, TX6, 7, tyX6, rfl, by decide, rfl, inW6, Or.inr ⟨"OverflowGuards", tw_b1 71 (by decide +kernel) (by decide +kernel)⟩, tyX6_ok, nmX6, rfl, by decide +kernel⟩
theorem fp_RX5_82 : FP RX5 82 6 4 true (.array .int) := ⟨RX6, TX6, 7, tyX6, rfl, by decide, rfl, inW6, Or.inr ⟨"OverflowGuards", tw_b1 76 (by decide +kernel) (by decide +kernel)⟩, tyX6_ok, nmX6, rfl, by decide +kernel⟩
theorem fp_RX5_92 : FP RX5 92 6 6 true (.array .int) := ⟨RX6, TX6, 7, tyX6, rfl, by decide, rfl, inW6, Or.inr ⟨"OverflowGuards", tw_b1 86 (by decide +kernel) (by decide +kernel)⟩, tyX6_ok, nmX6, rfl, by decide +kernel⟩
theorem fp_RX6_9 : FP RX6 9 6 0 false (.int) := ⟨RX6, TX6, 7, tyX6, rfl, by decide, rfl, inW6, Or.inl (tw_b1 51 (by decide +kernel) (by decide +kernel)), tyX6_ok, nmX6, rfl, by decide +kernel⟩
theorem fp_RX6_15 : FP RX6 15 6 1 true (.array .int) := ⟨RX6, TX6, 7, tyX6, rfl, by decide, rfl, inW6, Or.inl (tw_b1 57 (by decide +kernel) (by decide +kernel)), tyX6_ok, nmX6, rfl, by decide +kernel⟩
theorem fp_RX6_19 : FP RX6 19 6 2 true (.array .int) := ⟨RX6, TX6, 7, tyX6, rfl, by decide, rfl, inW6, Or.inl (tw_b1 63 (by decide +kernel) (by decide +kernel)), tyX6_ok, nmX6, rfl, by decide +kernel⟩
theorem fp_RX6_22 : FP RX6 22 6 3 true (.array .int) := ⟨RX6, TX6, 7, tyX6, rfl, by decide, rfl, inW6, Or.inl (tw_b1 69 (by decide +kernel) (by decide +kernel)), tyX6_ok, nmX6, rfl, by decide +kernel⟩
theorem fp_RX6_25 : FP RX6 25 6 4 true (.array .int) := ⟨RX6, TX6, 7, tyX6, rfl, by decide, rfl, inW6, Or.inl (tw_b1 74 (by decide +kernel) (by decide +kernel)), tyX6_ok, nmX6, rfl, by decide +kernel⟩
theorem fp_RX6_28 : FP RX6 28 6 5 true (.array .int) := ⟨RX6, TX6, 7, tyX6, rfl, by decide, rfl, inW6, Or.inl (tw_b1 79 (by decide +kernel) (by decide +kernel)), tyX6_ok, nmX6, rfl, by decide +kernel⟩
theorem fp_RX6_31 : FP RX6 31 6 6 true (.array .int) := ⟨RX6, TX6, 7, tyX6, rfl, by decide, rfl, inW6, Or.inl (tw_b1 83 (by decide +kernel) (by decide +kernel)), tyX6_ok, nmX6, rfl, by decide +kernel⟩
theorem fp_RX7_12 : FP RX7 12 7 0 true (.object "OverflowGuards$Cursor") := ⟨RX7, TX7, 6, tyX7, rfl, by decide, rfl, inW7, Or.inl (tw_b2 40 (by decide +kernel) (by decide +kernel)), tyX7_ok, nmX7, rfl, by decide +kernel⟩
theorem fp_RX7_18 : FP RX7 18 7 1 true (.array .long) := ⟨RX7, TX7, 6, tyX7, rfl, by decide, rfl, inW7, Or.inl (tw_b2 41 (by decide +kernel) (by decide +kernel)), tyX7_ok, nmX7, rfl, by decide +kernel⟩
theorem fp_RX7_22 : FP RX7 22 7 2 false (.int) := ⟨RX7, TX7, 6, tyX7, rfl, by decide, rfl, inW7, Or.inl (tw_b2 43 (by decide +kernel) (by decide +kernel)), tyX7_ok, nmX7, rfl, by decide +kernel⟩
theorem fp_RX7_26 : FP RX7 26 7 3 false (.int) := ⟨RX7, TX7, 6, tyX7, rfl, by decide, rfl, inW7, Or.inl (tw_b2 45 (by decide +kernel) (by decide +kernel)), tyX7_ok, nmX7, rfl, by decide +kernel⟩
theorem fp_RX7_29 : FP RX7 29 7 4 false (.int) := ⟨RX7, TX7, 6, tyX7, rfl, by decide, rfl, inW7, Or.inl (tw_b2 47 (by decide +kernel) (by decide +kernel)), tyX7_ok, nmX7, rfl, by decide +kernel⟩
theorem fp_RX7_32 : FP RX7 32 7 5 true (.array .boolean) := ⟨RX7, TX7, 6, tyX7, rfl, by decide, rfl, inW7, Or.inl (tw_b2 49 (by decide +kernel) (by decide +kernel)), tyX7_ok, nmX7, rfl, by decide +kernel⟩
theorem fp_RX7_40 : FP RX7 40 6 0 false (.int) := ⟨RX6, TX6, 7, tyX6, rfl, by decide, rfl, inW6, Or.inr ⟨"OverflowGuards", tw_b1 53 (by decide +kernel) (by decide +kernel)⟩, tyX6_ok, nmX6, rfl, by decide +kernel⟩
theorem fp_RX7_54 : FP RX7 54 1 0 false (.int) := ⟨RX1, TX1, 2, tyX1, rfl, by decide, rfl, inW1, Or.inr ⟨"OverflowGuards", tw_b1 198 (by decide +kernel) (by decide +kernel)⟩, tyX1_ok, nmX1, rfl, by decide +kernel⟩
theorem fp_RX7_68 : FP RX7 68 5 0 true (.array .int) := ⟨RX5, TX5, 3, tyX5, rfl, by decide, rfl, inW5, Or.inr ⟨"OverflowGuards", tw_b2 20 (by decide +kernel) (by decide +kernel)⟩, tyX5_ok, nmX5, rfl, by decide +kernel⟩
theorem fp_RX7_74 : FP RX7 74 6 1 true (.array .int) := ⟨RX6, TX6, 7, tyX6, rfl, by decide, rfl, inW6, Or.inr ⟨"OverflowGuards", tw_b1 59 (by decide +kernel) (by decide +kernel)⟩, tyX6_ok, nmX6, rfl, by decide +kernel⟩
theorem fp_RX7_81 : FP RX7 81 3 2 true (.array .int) := ⟨RX3, TX3, 3, tyX3, rfl, by decide, rfl, inW3, Or.inr ⟨"OverflowGuards", tw_b1 149 (by decide +kernel) (by decide +kernel)⟩, tyX3_ok, nmX3, rfl, by decide +kernel⟩
theorem fp_RX7_86 : FP RX7 86 6 2 true (.array .int) := ⟨RX6, TX6, 7, tyX6, rfl, by decide, rfl, inW6, Or.inr ⟨"OverflowGuards", tw_b1 67 (by decide +kernel) (by decide +kernel)⟩, tyX6_ok, nmX6, rfl, by decide +kernel⟩
theorem fp_RX7_89 : FP RX7 89 6 5 true (.array .int) := ⟨RX6, TX6, 7, tyX6, rfl, by decide, rfl, inW6, Or.inr ⟨"OverflowGuards", tw_b1 81 (by decide +kernel) (by decide +kernel)⟩, tyX6_ok, nmX6, rfl, by decide +kernel⟩
theorem fp_RX7_92 : FP RX7 92 6 6 true (.array .int) := ⟨RX6, TX6, 7, tyX6, rfl, by decide, rfl, inW6, Or.inr ⟨"OverflowGuards", tw_b1 85 (by decide +kernel) (by decide +kernel)⟩, tyX6_ok, nmX6, rfl, by decide +kernel⟩
theorem fp_RX7_107 : FP RX7 107 6 3 true (.array .int) := ⟨RX6, TX6, 7, tyX6, rfl, by decide, rfl, inW6, Or.inr ⟨"OverflowGuards", tw_b1 72 (by decide +kernel) (by decide +kernel)⟩, tyX6_ok, nmX6, rfl, by decide +kernel⟩
theorem fp_RX7_110 : FP RX7 110 6 4 true (.array .int) := ⟨RX6, TX6, 7, tyX6, rfl, by decide, rfl, inW6, Or.inr ⟨"OverflowGuards", tw_b1 77 (by decide +kernel) (by decide +kernel)⟩, tyX6_ok, nmX6, rfl, by decide +kernel⟩
theorem fp_RX8_10 : FP RX8 10 8 0 true (.object "OverflowGuards$Program") := ⟨RX8, TX8, 2, tyX8, rfl, by decide, rfl, inW8, Or.inl (tw_b1 158 (by decide +kernel) (by decide +kernel)), tyX8_ok, nmX8, rfl, by decide +kernel⟩
theorem fp_RX8_19 : FP RX8 19 8 1 true (.object "OverflowGuards$Inputs") := ⟨RX8, TX8, 2, tyX8, rfl, by decide, rfl, inW8, Or.inl (tw_b1 160 (by decide +kernel) (by decide +kernel)), tyX8_ok, nmX8, rfl, by decide +kernel⟩
theorem fp_RX9_9 : FP RX9 9 9 0 true (.array .int) := ⟨RX9, TX9, 2, tyX9, rfl, by decide, rfl, inW9, Or.inl (tw_b1 35 (by decide +kernel) (by decide +kernel)), tyX9_ok, nmX9, rfl, by decide +kernel⟩
theorem fp_RX9_15 : FP RX9 15 9 1 false (.int) := ⟨RX9, TX9, 2, tyX9, rfl, by decide, rfl, inW9, Or.inl (tw_b1 36 (by decide +kernel) (by decide +kernel)), tyX9_ok, nmX9, rfl, by decide +kernel⟩
theorem fp_RX11_7 : FP RX11 7 11 0 true (.array .int) := ⟨RX11, TX11, 33, tyX11, rfl, by decide, rfl, inW11, Or.inl (tw_b4 220 (by decide +kernel) (by decide +kernel)), tyX11_ok, nmX11, rfl, by decide +kernel⟩
theorem fp_RX11_13 : FP RX11 13 11 1 true (.array .int) := ⟨RX11, TX11, 33, tyX11, rfl, by decide, rfl, inW11, Or.inl (tw_b4 221 (by decide +kernel) (by decide +kernel)), tyX11_ok, nmX11, rfl, by decide +kernel⟩
theorem fp_RX11_16 : FP RX11 16 11 4 true (.array .int) := ⟨RX11, TX11, 33, tyX11, rfl, by decide, rfl, inW11, Or.inl (tw_b4 224 (by decide +kernel) (by decide +kernel)), tyX11_ok, nmX11, rfl, by decide +kernel⟩
theorem fp_RX11_19 : FP RX11 19 11 7 true (.array .int) := ⟨RX11, TX11, 33, tyX11, rfl, by decide, rfl, inW11, Or.inl (tw_b4 227 (by decide +kernel) (by decide +kernel)), tyX11_ok, nmX11, rfl, by decide +kernel⟩
theorem fp_RX11_22 : FP RX11 22 11 10 true (.array .int) := ⟨RX11, TX11, 33, tyX11, rfl, by decide, rfl, inW11, Or.inl (tw_b4 230 (by decide +kernel) (by decide +kernel)), tyX11_ok, nmX11, rfl, by decide +kernel⟩
theorem fp_RX11_25 : FP RX11 25 11 11 true (.array .int) := ⟨RX11, TX11, 33, tyX11, rfl, by decide, rfl, inW11, Or.inl (tw_b4 231 (by decide +kernel) (by decide +kernel)), tyX11_ok, nmX11, rfl, by decide +kernel⟩
theorem fp_RX11_28 : FP RX11 28 11 12 true (.array .int) := ⟨RX11, TX11, 33, tyX11, rfl, by decide, rfl, inW11, Or.inl (tw_b4 232 (by decide +kernel) (by decide +kernel)), tyX11_ok, nmX11, rfl, by decide +kernel⟩
theorem fp_RX11_31 : FP RX11 31 11 15 true (.array .int) := ⟨RX11, TX11, 33, tyX11, rfl, by decide, rfl, inW11, Or.inl (tw_b4 235 (by decide +kernel) (by decide +kernel)), tyX11_ok, nmX11, rfl, by decide +kernel⟩
theorem fp_RX11_34 : FP RX11 34 11 16 true (.array .long) := ⟨RX11, TX11, 33, tyX11, rfl, by decide, rfl, inW11, Or.inl (tw_b4 236 (by decide +kernel) (by decide +kernel)), tyX11_ok, nmX11, rfl, by decide +kernel⟩
theorem fp_RX11_38 : FP RX11 38 11 17 true (.array .long) := ⟨RX11, TX11, 33, tyX11, rfl, by decide, rfl, inW11, Or.inl (tw_b4 237 (by decide +kernel) (by decide +kernel)), tyX11_ok, nmX11, rfl, by decide +kernel⟩
theorem fp_RX11_41 : FP RX11 41 11 18 true (.array .boolean) := ⟨RX11, TX11, 33, tyX11, rfl, by decide, rfl, inW11, Or.inl (tw_b4 238 (by decide +kernel) (by decide +kernel)), tyX11_ok, nmX11, rfl, by decide +kernel⟩
theorem fp_RX11_45 : FP RX11 45 11 19 true (.array .boolean) := ⟨RX11, TX11, 33, tyX11, rfl, by decide, rfl, inW11, Or.inl (tw_b4 239 (by decide +kernel) (by decide +kernel)), tyX11_ok, nmX11, rfl, by decide +kernel⟩
theorem fp_RX11_48 : FP RX11 48 11 20 true (.array .boolean) := ⟨RX11, TX11, 33, tyX11, rfl, by decide, rfl, inW11, Or.inl (tw_b5 0 (by decide +kernel) (by decide +kernel)), tyX11_ok, nmX11, rfl, by decide +kernel⟩
theorem fp_RX11_51 : FP RX11 51 11 21 true (.array .boolean) := ⟨RX11, TX11, 33, tyX11, rfl, by decide, rfl, inW11, Or.inl (tw_b5 1 (by decide +kernel) (by decide +kernel)), tyX11_ok, nmX11, rfl, by decide +kernel⟩
theorem fp_RX11_54 : FP RX11 54 11 22 true (.array .long) := ⟨RX11, TX11, 33, tyX11, rfl, by decide, rfl, inW11, Or.inl (tw_b5 2 (by decide +kernel) (by decide +kernel)), tyX11_ok, nmX11, rfl, by decide +kernel⟩
theorem fp_RX11_57 : FP RX11 57 11 23 true (.array .long) := ⟨RX11, TX11, 33, tyX11, rfl, by decide, rfl, inW11, Or.inl (tw_b5 3 (by decide +kernel) (by decide +kernel)), tyX11_ok, nmX11, rfl, by decide +kernel⟩
theorem fp_RX11_60 : FP RX11 60 11 25 true (.array .int) := ⟨RX11, TX11, 33, tyX11, rfl, by decide, rfl, inW11, Or.inl (tw_b5 5 (by decide +kernel) (by decide +kernel)), tyX11_ok, nmX11, rfl, by decide +kernel⟩
theorem fp_RX11_63 : FP RX11 63 11 26 true (.array .boolean) := ⟨RX11, TX11, 33, tyX11, rfl, by decide, rfl, inW11, Or.inl (tw_b5 6 (by decide +kernel) (by decide +kernel)), tyX11_ok, nmX11, rfl, by decide +kernel⟩
theorem fp_RX11_66 : FP RX11 66 11 27 true (.array .int) := ⟨RX11, TX11, 33, tyX11, rfl, by decide, rfl, inW11, Or.inl (tw_b5 7 (by decide +kernel) (by decide +kernel)), tyX11_ok, nmX11, rfl, by decide +kernel⟩
theorem fp_RX11_69 : FP RX11 69 11 28 true (.array .long) := ⟨RX11, TX11, 33, tyX11, rfl, by decide, rfl, inW11, Or.inl (tw_b5 8 (by decide +kernel) (by decide +kernel)), tyX11_ok, nmX11, rfl, by decide +kernel⟩
theorem fp_RX11_72 : FP RX11 72 11 29 true (.array .boolean) := ⟨RX11, TX11, 33, tyX11, rfl, by decide, rfl, inW11, Or.inl (tw_b5 9 (by decide +kernel) (by decide +kernel)), tyX11_ok, nmX11, rfl, by decide +kernel⟩
theorem fp_RX11_75 : FP RX11 75 11 3 false (.int) := ⟨RX11, TX11, 33, tyX11, rfl, by decide, rfl, inW11, Or.inl (tw_b4 223 (by decide +kernel) (by decide +kernel)), tyX11_ok, nmX11, rfl, by decide +kernel⟩
theorem fp_RX11_79 : FP RX11 79 11 2 false (.int) := ⟨RX11, TX11, 33, tyX11, rfl, by decide, rfl, inW11, Or.inl (tw_b4 222 (by decide +kernel) (by decide +kernel)), tyX11_ok, nmX11, rfl, by decide +kernel⟩
theorem fp_RX11_98 : FP RX11 98 11 5 false (.int) := ⟨RX11, TX11, 33, tyX11, rfl, by decide, rfl, inW11, Or.inl (tw_b4 225 (by decide +kernel) (by decide +kernel)), tyX11_ok, nmX11, rfl, by decide +kernel⟩
theorem fp_RX11_105 : FP RX11 105 11 6 false (.int) := ⟨RX11, TX11, 33, tyX11, rfl, by decide, rfl, inW11, Or.inl (tw_b4 226 (by decide +kernel) (by decide +kernel)), tyX11_ok, nmX11, rfl, by decide +kernel⟩
theorem fp_RX11_120 : FP RX11 120 11 8 false (.int) := ⟨RX11, TX11, 33, tyX11, rfl, by decide, rfl, inW11, Or.inl (tw_b4 228 (by decide +kernel) (by decide +kernel)), tyX11_ok, nmX11, rfl, by decide +kernel⟩
theorem fp_RX11_139 : FP RX11 139 11 9 false (.int) := ⟨RX11, TX11, 33, tyX11, rfl, by decide, rfl, inW11, Or.inl (tw_b4 229 (by decide +kernel) (by decide +kernel)), tyX11_ok, nmX11, rfl, by decide +kernel⟩
theorem fp_RX11_174 : FP RX11 174 11 13 false (.int) := ⟨RX11, TX11, 33, tyX11, rfl, by decide, rfl, inW11, Or.inl (tw_b4 233 (by decide +kernel) (by decide +kernel)), tyX11_ok, nmX11, rfl, by decide +kernel⟩
theorem fp_RX11_177 : FP RX11 177 11 14 false (.int) := ⟨RX11, TX11, 33, tyX11, rfl, by decide, rfl, inW11, Or.inl (tw_b4 234 (by decide +kernel) (by decide +kernel)), tyX11_ok, nmX11, rfl, by decide +kernel⟩
theorem fp_RX11_201 : FP RX11 201 11 24 false (.boolean) := ⟨RX11, TX11, 33, tyX11, rfl, by decide, rfl, inW11, Or.inl (tw_b5 4 (by decide +kernel) (by decide +kernel)), tyX11_ok, nmX11, rfl, by decide +kernel⟩
theorem fp_RX11_242 : FP RX11 242 11 31 false (.int) := ⟨RX11, TX11, 33, tyX11, rfl, by decide, rfl, inW11, Or.inl (tw_b5 11 (by decide +kernel) (by decide +kernel)), tyX11_ok, nmX11, rfl, by decide +kernel⟩
theorem fp_RX11_249 : FP RX11 249 11 30 false (.int) := ⟨RX11, TX11, 33, tyX11, rfl, by decide, rfl, inW11, Or.inl (tw_b5 10 (by decide +kernel) (by decide +kernel)), tyX11_ok, nmX11, rfl, by decide +kernel⟩
theorem fp_RX11_252 : FP RX11 252 11 32 false (.int) := ⟨RX11, TX11, 33, tyX11, rfl, by decide, rfl, inW11, Or.inl (tw_b5 12 (by decide +kernel) (by decide +kernel)), tyX11_ok, nmX11, rfl, by decide +kernel⟩
theorem fk_RX10_10 : ∀ C T N, vwCl[10]? = some (C, T, N) → Cond.fieldLink RX10 10 C (T 0).2.1 (T 0).2.2.1 ∈ TW := fun C T N h => by cases h; exact tw_b2 65 (by decide +kernel) (by decide +kernel)
theorem fk_RX10_19 : ∀ C T N, vwCl[10]? = some (C, T, N) → Cond.fieldLink RX10 19 C (T 1).2.1 (T 1).2.2.1 ∈ TW := fun C T N h => by cases h; exact tw_b2 66 (by decide +kernel) (by decide +kernel)
theorem fk_RX10_28 : ∀ C T N, vwCl[10]? = some (C, T, N) → Cond.fieldLink RX10 28 C (T 2).2.1 (T 2).2.2.1 ∈ TW := fun C T N h => by cases h; exact tw_b2 67 (by decide +kernel) (by decide +kernel)
theorem fk_RX10_35 : ∀ C T N, vwCl[10]? = some (C, T, N) → Cond.fieldLink RX10 35 C (T 3).2.1 (T 3).2.2.1 ∈ TW := fun C T N h => by cases h; exact tw_b2 68 (by decide +kernel) (by decide +kernel)
theorem fk_RX10_42 : ∀ C T N, vwCl[10]? = some (C, T, N) → Cond.fieldLink RX10 42 C (T 4).2.1 (T 4).2.2.1 ∈ TW := fun C T N h => by cases h; exact tw_b2 69 (by decide +kernel) (by decide +kernel)
theorem fk_RX10_49 : ∀ C T N, vwCl[10]? = some (C, T, N) → Cond.fieldLink RX10 49 C (T 5).2.1 (T 5).2.2.1 ∈ TW := fun C T N h => by cases h; exact tw_b2 70 (by decide +kernel) (by decide +kernel)
theorem fk_RX10_56 : ∀ C T N, vwCl[10]? = some (C, T, N) → Cond.fieldLink RX10 56 C (T 6).2.1 (T 6).2.2.1 ∈ TW := fun C T N h => by cases h; exact tw_b2 71 (by decide +kernel) (by decide +kernel)
theorem fk_RX10_63 : ∀ C T N, vwCl[10]? = some (C, T, N) → Cond.fieldLink RX10 63 C (T 7).2.1 (T 7).2.2.1 ∈ TW := fun C T N h => by cases h; exact tw_b2 72 (by decide +kernel) (by decide +kernel)
theorem fk_RX10_67 : ∀ C T N, vwCl[10]? = some (C, T, N) → Cond.fieldLink RX10 67 C (T 8).2.1 (T 8).2.2.1 ∈ TW := fun C T N h => by cases h; exact tw_b2 73 (by decide +kernel) (by decide +kernel)
theorem fk_RX10_80 : ∀ C T N, vwCl[10]? = some (C, T, N) → Cond.fieldLink RX10 80 C (T 11).2.1 (T 11).2.2.1 ∈ TW := fun C T N h => by cases h; exact tw_b2 76 (by decide +kernel) (by decide +kernel)
theorem fk_RX10_84 : ∀ C T N, vwCl[10]? = some (C, T, N) → Cond.fieldLink RX10 84 C (T 12).2.1 (T 12).2.2.1 ∈ TW := fun C T N h => by cases h; exact tw_b2 77 (by decide +kernel) (by decide +kernel)
theorem fk_RX10_87 : ∀ C T N, vwCl[10]? = some (C, T, N) → Cond.fieldLink RX10 87 C (T 13).2.1 (T 13).2.2.1 ∈ TW := fun C T N h => by cases h; exact tw_b2 78 (by decide +kernel) (by decide +kernel)
theorem fk_RX0_12 : ∀ C T N, vwCl[0]? = some (C, T, N) → Cond.fieldLink RX0 12 C (T 0).2.1 (T 0).2.2.1 ∈ TW := fun C T N h => by cases h; exact tw_b1 205 (by decide +kernel) (by decide +kernel)
theorem fk_RX0_26 : ∀ C T N, vwCl[0]? = some (C, T, N) → Cond.fieldLink RX0 26 C (T 3).2.1 (T 3).2.2.1 ∈ TW := fun C T N h => by cases h; exact tw_b1 210 (by decide +kernel) (by decide +kernel)
theorem fk_RX0_30 : ∀ C T N, vwCl[0]? = some (C, T, N) → Cond.fieldLink RX0 30 C (T 4).2.1 (T 4).2.2.1 ∈ TW := fun C T N h => by cases h; exact tw_b1 211 (by decide +kernel) (by decide +kernel)
theorem fk_RX0_36 : ∀ C T N, vwCl[0]? = some (C, T, N) → Cond.fieldLink RX0 36 C (T 6).2.1 (T 6).2.2.1 ∈ TW := fun C T N h => by cases h; exact tw_b1 213 (by decide +kernel) (by decide +kernel)
theorem fk_RX0_40 : ∀ C T N, vwCl[0]? = some (C, T, N) → Cond.fieldLink RX0 40 C (T 7).2.1 (T 7).2.2.1 ∈ TW := fun C T N h => by cases h; exact tw_b1 215 (by decide +kernel) (by decide +kernel)
theorem fk_RX0_43 : ∀ C T N, vwCl[0]? = some (C, T, N) → Cond.fieldLink RX0 43 C (T 8).2.1 (T 8).2.2.1 ∈ TW := fun C T N h => by cases h; exact tw_b1 217 (by decide +kernel) (by decide +kernel)
theorem fk_RX0_46 : ∀ C T N, vwCl[0]? = some (C, T, N) → Cond.fieldLink RX0 46 C (T 9).2.1 (T 9).2.2.1 ∈ TW := fun C T N h => by cases h; exact tw_b1 219 (by decide +kernel) (by decide +kernel)
theorem fk_RX0_49 : ∀ C T N, vwCl[0]? = some (C, T, N) → Cond.fieldLink RX0 49 C (T 10).2.1 (T 10).2.2.1 ∈ TW := fun C T N h => by cases h; exact tw_b1 221 (by decide +kernel) (by decide +kernel)
theorem fk_RX1_15 : ∀ C T N, vwCl[1]? = some (C, T, N) → Cond.fieldLink RX1 15 C (T 1).2.1 (T 1).2.2.1 ∈ TW := fun C T N h => by cases h; exact tw_b1 199 (by decide +kernel) (by decide +kernel)
theorem fk_RX2_17 : ∀ C T N, vwCl[2]? = some (C, T, N) → Cond.fieldLink RX2 17 C (T 1).2.1 (T 1).2.2.1 ∈ TW := fun C T N h => by cases h; exact tw_b1 178 (by decide +kernel) (by decide +kernel)
theorem fk_RX3_9 : ∀ C T N, vwCl[3]? = some (C, T, N) → Cond.fieldLink RX3 9 C (T 0).2.1 (T 0).2.2.1 ∈ TW := fun C T N h => by cases h; exact tw_b1 142 (by decide +kernel) (by decide +kernel)
theorem fk_RX3_15 : ∀ C T N, vwCl[3]? = some (C, T, N) → Cond.fieldLink RX3 15 C (T 1).2.1 (T 1).2.2.1 ∈ TW := fun C T N h => by cases h; exact tw_b1 145 (by decide +kernel) (by decide +kernel)
theorem fk_RX3_18 : ∀ C T N, vwCl[3]? = some (C, T, N) → Cond.fieldLink RX3 18 C (T 2).2.1 (T 2).2.2.1 ∈ TW := fun C T N h => by cases h; exact tw_b1 148 (by decide +kernel) (by decide +kernel)
theorem fk_RX4_21 : ∀ C T N, vwCl[4]? = some (C, T, N) → Cond.fieldLink RX4 21 C (T 5).2.1 (T 5).2.2.1 ∈ TW := fun C T N h => by cases h; exact tw_b1 114 (by decide +kernel) (by decide +kernel)
theorem fk_RX4_25 : ∀ C T N, vwCl[4]? = some (C, T, N) → Cond.fieldLink RX4 25 C (T 0).2.1 (T 0).2.2.1 ∈ TW := fun C T N h => by cases h; exact tw_b1 109 (by decide +kernel) (by decide +kernel)
theorem fk_RX4_29 : ∀ C T N, vwCl[4]? = some (C, T, N) → Cond.fieldLink RX4 29 C (T 1).2.1 (T 1).2.2.1 ∈ TW := fun C T N h => by cases h; exact tw_b1 110 (by decide +kernel) (by decide +kernel)
theorem fk_RX5_9 : ∀ C T N, vwCl[5]? = some (C, T, N) → Cond.fieldLink RX5 9 C (T 0).2.1 (T 0).2.2.1 ∈ TW := fun C T N h => by cases h; exact tw_b2 19 (by decide +kernel) (by decide +kernel)
theorem fk_RX5_15 : ∀ C T N, vwCl[5]? = some (C, T, N) → Cond.fieldLink RX5 15 C (T 1).2.1 (T 1).2.2.1 ∈ TW := fun C T N h => by cases h; exact tw_b2 22 (by decide +kernel) (by decide +kernel)
theorem fk_RX5_18 : ∀ C T N, vwCl[5]? = some (C, T, N) → Cond.fieldLink RX5 18 C (T 2).2.1 (T 2).2.2.1 ∈ TW := fun C T N h => by cases h; exact tw_b2 24 (by decide +kernel) (by decide +kernel)
theorem fk_RX6_15 : ∀ C T N, vwCl[6]? = some (C, T, N) → Cond.fieldLink RX6 15 C (T 1).2.1 (T 1).2.2.1 ∈ TW := fun C T N h => by cases h; exact tw_b1 57 (by decide +kernel) (by decide +kernel)
theorem fk_RX6_19 : ∀ C T N, vwCl[6]? = some (C, T, N) → Cond.fieldLink RX6 19 C (T 2).2.1 (T 2).2.2.1 ∈ TW := fun C T N h => by cases h; exact tw_b1 63 (by decide +kernel) (by decide +kernel)
theorem fk_RX6_22 : ∀ C T N, vwCl[6]? = some (C, T, N) → Cond.fieldLink RX6 22 C (T 3).2.1 (T 3).2.2.1 ∈ TW := fun C T N h => by cases h; exact tw_b1 69 (by decide +kernel) (by decide +kernel)
theorem fk_RX6_25 : ∀ C T N, vwCl[6]? = some (C, T, N) → Cond.fieldLink RX6 25 C (T 4).2.1 (T 4).2.2.1 ∈ TW := fun C T N h => by cases h; exact tw_b1 74 (by decide +kernel) (by decide +kernel)
theorem fk_RX6_28 : ∀ C T N, vwCl[6]? = some (C, T, N) → Cond.fieldLink RX6 28 C (T 5).2.1 (T 5).2.2.1 ∈ TW := fun C T N h => by cases h; exact tw_b1 79 (by decide +kernel) (by decide +kernel)
theorem fk_RX6_31 : ∀ C T N, vwCl[6]? = some (C, T, N) → Cond.fieldLink RX6 31 C (T 6).2.1 (T 6).2.2.1 ∈ TW := fun C T N h => by cases h; exact tw_b1 83 (by decide +kernel) (by decide +kernel)
theorem fk_RX7_12 : ∀ C T N, vwCl[7]? = some (C, T, N) → Cond.fieldLink RX7 12 C (T 0).2.1 (T 0).2.2.1 ∈ TW := fun C T N h => by cases h; exact tw_b2 40 (by decide +kernel) (by decide +kernel)
theorem fk_RX7_18 : ∀ C T N, vwCl[7]? = some (C, T, N) → Cond.fieldLink RX7 18 C (T 1).2.1 (T 1).2.2.1 ∈ TW := fun C T N h => by cases h; exact tw_b2 41 (by decide +kernel) (by decide +kernel)
theorem fk_RX7_32 : ∀ C T N, vwCl[7]? = some (C, T, N) → Cond.fieldLink RX7 32 C (T 5).2.1 (T 5).2.2.1 ∈ TW := fun C T N h => by cases h; exact tw_b2 49 (by decide +kernel) (by decide +kernel)
theorem fk_RX8_10 : ∀ C T N, vwCl[8]? = some (C, T, N) → Cond.fieldLink RX8 10 C (T 0).2.1 (T 0).2.2.1 ∈ TW := fun C T N h => by cases h; exact tw_b1 158 (by decide +kernel) (by decide +kernel)
theorem fk_RX8_19 : ∀ C T N, vwCl[8]? = some (C, T, N) → Cond.fieldLink RX8 19 C (T 1).2.1 (T 1).2.2.1 ∈ TW := fun C T N h => by cases h; exact tw_b1 160 (by decide +kernel) (by decide +kernel)
theorem fk_RX9_9 : ∀ C T N, vwCl[9]? = some (C, T, N) → Cond.fieldLink RX9 9 C (T 0).2.1 (T 0).2.2.1 ∈ TW := fun C T N h => by cases h; exact tw_b1 35 (by decide +kernel) (by decide +kernel)
theorem fk_RX11_7 : ∀ C T N, vwCl[11]? = some (C, T, N) → Cond.fieldLink RX11 7 C (T 0).2.1 (T 0).2.2.1 ∈ TW := fun C T N h => by cases h; exact tw_b4 220 (by decide +kernel) (by decide +kernel)
theorem fk_RX11_13 : ∀ C T N, vwCl[11]? = some (C, T, N) → Cond.fieldLink RX11 13 C (T 1).2.1 (T 1).2.2.1 ∈ TW := fun C T N h => by cases h; exact tw_b4 221 (by decide +kernel) (by decide +kernel)
theorem fk_RX11_16 : ∀ C T N, vwCl[11]? = some (C, T, N) → Cond.fieldLink RX11 16 C (T 4).2.1 (T 4).2.2.1 ∈ TW := fun C T N h => by cases h; exact tw_b4 224 (by decide +kernel) (by decide +kernel)
theorem fk_RX11_19 : ∀ C T N, vwCl[11]? = some (C, T, N) → Cond.fieldLink RX11 19 C (T 7).2.1 (T 7).2.2.1 ∈ TW := fun C T N h => by cases h; exact tw_b4 227 (by decide +kernel) (by decide +kernel)
theorem fk_RX11_22 : ∀ C T N, vwCl[11]? = some (C, T, N) → Cond.fieldLink RX11 22 C (T 10).2.1 (T 10).2.2.1 ∈ TW := fun C T N h => by cases h; exact tw_b4 230 (by decide +kernel) (by decide +kernel)
theorem fk_RX11_25 : ∀ C T N, vwCl[11]? = some (C, T, N) → Cond.fieldLink RX11 25 C (T 11).2.1 (T 11).2.2.1 ∈ TW := fun C T N h => by cases h; exact tw_b4 231 (by decide +kernel) (by decide +kernel)
theorem fk_RX11_28 : ∀ C T N, vwCl[11]? = some (C, T, N) → Cond.fieldLink RX11 28 C (T 12).2.1 (T 12).2.2.1 ∈ TW := fun C T N h => by cases h; exact tw_b4 232 (by decide +kernel) (by decide +kernel)
theorem fk_RX11_31 : ∀ C T N, vwCl[11]? = some (C, T, N) → Cond.fieldLink RX11 31 C (T 15).2.1 (T 15).2.2.1 ∈ TW := fun C T N h => by cases h; exact tw_b4 235 (by decide +kernel) (by decide +kernel)
theorem fk_RX11_34 : ∀ C T N, vwCl[11]? = some (C, T, N) → Cond.fieldLink RX11 34 C (T 16).2.1 (T 16).2.2.1 ∈ TW := fun C T N h => by cases h; exact tw_b4 236 (by decide +kernel) (by decide +kernel)
theorem fk_RX11_38 : ∀ C T N, vwCl[11]? = some (C, T, N) → Cond.fieldLink RX11 38 C (T 17).2.1 (T 17).2.2.1 ∈ TW := fun C T N h => by cases h; exact tw_b4 237 (by decide +kernel) (by decide +kernel)
theorem fk_RX11_41 : ∀ C T N, vwCl[11]? = some (C, T, N) → Cond.fieldLink RX11 41 C (T 18).2.1 (T 18).2.2.1 ∈ TW := fun C T N h => by cases h; exact tw_b4 238 (by decide +kernel) (by decide +kernel)
theorem fk_RX11_45 : ∀ C T N, vwCl[11]? = some (C, T, N) → Cond.fieldLink RX11 45 C (T 19).2.1 (T 19).2.2.1 ∈ TW := fun C T N h => by cases h; exact tw_b4 239 (by decide +kernel) (by decide +kernel)
theorem fk_RX11_48 : ∀ C T N, vwCl[11]? = some (C, T, N) → Cond.fieldLink RX11 48 C (T 20).2.1 (T 20).2.2.1 ∈ TW := fun C T N h => by cases h; exact tw_b5 0 (by decide +kernel) (by decide +kernel)
theorem fk_RX11_51 : ∀ C T N, vwCl[11]? = some (C, T, N) → Cond.fieldLink RX11 51 C (T 21).2.1 (T 21).2.2.1 ∈ TW := fun C T N h => by cases h; exact tw_b5 1 (by decide +kernel) (by decide +kernel)
theorem fk_RX11_54 : ∀ C T N, vwCl[11]? = some (C, T, N) → Cond.fieldLink RX11 54 C (T 22).2.1 (T 22).2.2.1 ∈ TW := fun C T N h => by cases h; exact tw_b5 2 (by decide +kernel) (by decide +kernel)
theorem fk_RX11_57 : ∀ C T N, vwCl[11]? = some (C, T, N) → Cond.fieldLink RX11 57 C (T 23).2.1 (T 23).2.2.1 ∈ TW := fun C T N h => by cases h; exact tw_b5 3 (by decide +kernel) (by decide +kernel)
theorem fk_RX11_60 : ∀ C T N, vwCl[11]? = some (C, T, N) → Cond.fieldLink RX11 60 C (T 25).2.1 (T 25).2.2.1 ∈ TW := fun C T N h => by cases h; exact tw_b5 5 (by decide +kernel) (by decide +kernel)
theorem fk_RX11_63 : ∀ C T N, vwCl[11]? = some (C, T, N) → Cond.fieldLink RX11 63 C (T 26).2.1 (T 26).2.2.1 ∈ TW := fun C T N h => by cases h; exact tw_b5 6 (by decide +kernel) (by decide +kernel)
theorem fk_RX11_66 : ∀ C T N, vwCl[11]? = some (C, T, N) → Cond.fieldLink RX11 66 C (T 27).2.1 (T 27).2.2.1 ∈ TW := fun C T N h => by cases h; exact tw_b5 7 (by decide +kernel) (by decide +kernel)
theorem fk_RX11_69 : ∀ C T N, vwCl[11]? = some (C, T, N) → Cond.fieldLink RX11 69 C (T 28).2.1 (T 28).2.2.1 ∈ TW := fun C T N h => by cases h; exact tw_b5 8 (by decide +kernel) (by decide +kernel)
theorem fk_RX11_72 : ∀ C T N, vwCl[11]? = some (C, T, N) → Cond.fieldLink RX11 72 C (T 29).2.1 (T 29).2.2.1 ∈ TW := fun C T N h => by cases h; exact tw_b5 9 (by decide +kernel) (by decide +kernel)
abbrev mL_append : MI := (yL_append, cL_append, 4, some .int, { frames := 7, cells := 1, slots := 6, locals := 111 })
abbrev mL_coveredBy : MI := (yL_coveredBy, cL_coveredBy, 4, some .int, { frames := 8, cells := 1, slots := 6, locals := 189 })
abbrev mL_failingInput : MI := (yL_failingInput, cL_failingInput, 4, some .int, { frames := 8, cells := 1, slots := 6, locals := 200 })
abbrev mL_finalRange : MI := (yL_finalRange, cL_finalRange, 5, some .int, { frames := 8, cells := 1, slots := 6, locals := 190 })
abbrev mL_input : MI := (yL_input, cL_input, 5, some .int, { frames := 8, cells := 1, slots := 6, locals := 132 })
abbrev mL_instruction : MI := (yL_instruction, cL_instruction, 5, some .int, { frames := 8, cells := 1, slots := 6, locals := 133 })
abbrev mL_openWith : MI := (yL_openWith, cL_openWith, 6, some .int, { frames := 8, cells := 2, slots := 12, locals := 194 })
abbrev mL_operand : MI := (yL_operand, cL_operand, 5, some .int, { frames := 8, cells := 1, slots := 6, locals := 134 })
abbrev mL_range : MI := (yL_range, cL_range, 5, some .int, { frames := 8, cells := 2, slots := 12, locals := 190 })
abbrev mL_remove : MI := (yL_remove, cL_remove, 4, some .int, { frames := 8, cells := 2, slots := 12, locals := 144 })
abbrev mL_result : MI := (yL_result, cL_result, 5, some .int, { frames := 8, cells := 1, slots := 6, locals := 210 })
abbrev mL_safePower : MI := (yL_safePower, cL_safePower, 4, some .int, { frames := 8, cells := 1, slots := 6, locals := 196 })
abbrev mL_setInput : MI := (yL_setInput, cL_setInput, 5, some .int, { frames := 8, cells := 1, slots := 6, locals := 147 })
abbrev mL_setRange : MI := (yL_setRange, cL_setRange, 6, some .int, { frames := 8, cells := 2, slots := 12, locals := 146 })
abbrev mL_state : MI := (yL_state, cL_state, 4, some .int, { frames := 8, cells := 1, slots := 6, locals := 189 })
abbrev mL_states : MI := (yL_states, cL_states, 4, some .int, { frames := 7, cells := 1, slots := 6, locals := 191 })
abbrev mL_undo : MI := (yL_undo, cL_undo, 3, some .int, { frames := 7, cells := 1, slots := 6, locals := 123 })
abbrev mX0_assign : MI := (yX0_assign, cX0_assign, 7, none, { frames := 0, cells := 0, slots := 0, locals := 0 })
theorem mk_X0_assign : MK mX0_assign 3 := ⟨tw_b2 225 (by decide +kernel) (by decide +kernel), tw_b1 8 (by decide +kernel) (by decide +kernel), by decide, by decide, by decide +kernel, by decide +kernel⟩
theorem mi_X0_assign : Cond.instanceMethod yX0_assign ∈ TW := tw_b2 224 (by decide +kernel) (by decide +kernel)
theorem me_X0_assign : Cond.selects RX0 yX0_assign yX0_assign ∈ TW := tw_in 21 (by decide +kernel) (by decide +kernel)
abbrev mX0_begin : MI := (yX0_begin, cX0_begin, 3, none, { frames := 1, cells := 0, slots := 0, locals := 26 })
theorem mk_X0_begin : MK mX0_begin 1 := ⟨tw_b2 221 (by decide +kernel) (by decide +kernel), tw_b1 8 (by decide +kernel) (by decide +kernel), by decide, by decide, by decide +kernel, by decide +kernel⟩
theorem mi_X0_begin : Cond.instanceMethod yX0_begin ∈ TW := tw_b2 220 (by decide +kernel) (by decide +kernel)
theorem me_X0_begin : Cond.selects RX0 yX0_begin yX0_begin ∈ TW := tw_in 20 (by decide +kernel) (by decide +kernel)
abbrev mX0_compute : MI := (yX0_compute, cX0_compute, 8, none, { frames := 2, cells := 0, slots := 0, locals := 76 })
theorem mk_X0_compute : MK mX0_compute 3 := ⟨tw_b2 238 (by decide +kernel) (by decide +kernel), tw_b1 8 (by decide +kernel) (by decide +kernel), by decide, by decide, by decide +kernel, by decide +kernel⟩
theorem mi_X0_compute : Cond.instanceMethod yX0_compute ∈ TW := tw_b2 237 (by decide +kernel) (by decide +kernel)
theorem me_X0_compute : Cond.selects RX0 yX0_compute yX0_compute ∈ TW := tw_in 24 (by decide +kernel) (by decide +kernel)
abbrev mX0_execute : MI := (yX0_execute, cX0_execute, 3, none, { frames := 3, cells := 0, slots := 0, locals := 103 })
theorem mk_X0_execute : MK mX0_execute 2 := ⟨tw_b2 234 (by decide +kernel) (by decide +kernel), tw_b1 8 (by decide +kernel) (by decide +kernel), by decide, by decide, by decide +kernel, by decide +kernel⟩
theorem mi_X0_execute : Cond.instanceMethod yX0_execute ∈ TW := tw_b2 233 (by decide +kernel) (by decide +kernel)
theorem me_X0_execute : Cond.selects RX0 yX0_execute yX0_execute ∈ TW := tw_in 23 (by decide +kernel) (by decide +kernel)
abbrev mX0_finalHigh : MI := (yX0_finalHigh, cX0_finalHigh, 2, some .int, { frames := 0, cells := 0, slots := 0, locals := 0 })
theorem mk_X0_finalHigh : MK mX0_finalHigh 1 := ⟨tw_b3 169 (by decide +kernel) (by decide +kernel), tw_b1 8 (by decide +kernel) (by decide +kernel), by decide, by decide, by decide +kernel, by decide +kernel⟩
theorem mi_X0_finalHigh : Cond.instanceMethod yX0_finalHigh ∈ TW := tw_b3 168 (by decide +kernel) (by decide +kernel)
theorem me_X0_finalHigh : Cond.selects RX0 yX0_finalHigh yX0_finalHigh ∈ TW := tw_in 52 (by decide +kernel) (by decide +kernel)
abbrev mX0_finalLow : MI := (yX0_finalLow, cX0_finalLow, 2, some .int, { frames := 0, cells := 0, slots := 0, locals := 0 })
theorem mk_X0_finalLow : MK mX0_finalLow 1 := ⟨tw_b3 165 (by decide +kernel) (by decide +kernel), tw_b1 8 (by decide +kernel) (by decide +kernel), by decide, by decide, by decide +kernel, by decide +kernel⟩
theorem mi_X0_finalLow : Cond.instanceMethod yX0_finalLow ∈ TW := tw_b3 164 (by decide +kernel) (by decide +kernel)
theorem me_X0_finalLow : Cond.selects RX0 yX0_finalLow yX0_finalLow ∈ TW := tw_in 51 (by decide +kernel) (by decide +kernel)
abbrev mX0_go : MI := (yX0_go, cX0_go, 4, none, { frames := 4, cells := 0, slots := 0, locals := 125 })
theorem mk_X0_go : MK mX0_go 2 := ⟨tw_b2 217 (by decide +kernel) (by decide +kernel), tw_b1 8 (by decide +kernel) (by decide +kernel), by decide, by decide, by decide +kernel, by decide +kernel⟩
theorem mi_X0_go : Cond.instanceMethod yX0_go ∈ TW := tw_b2 216 (by decide +kernel) (by decide +kernel)
theorem me_X0_go : Cond.selects RX0 yX0_go yX0_go ∈ TW := tw_in 19 (by decide +kernel) (by decide +kernel)
abbrev mX0_highOf : MI := (yX0_highOf, cX0_highOf, 2, some .long, { frames := 1, cells := 0, slots := 0, locals := 20 })
theorem mk_X0_highOf : MK mX0_highOf 1 := ⟨tw_b3 9 (by decide +kernel) (by decide +kernel), tw_b1 8 (by decide +kernel) (by decide +kernel), by decide, by decide, by decide +kernel, by decide +kernel⟩
theorem mi_X0_highOf : Cond.instanceMethod yX0_highOf ∈ TW := tw_b3 8 (by decide +kernel) (by decide +kernel)
theorem me_X0_highOf : Cond.selects RX0 yX0_highOf yX0_highOf ∈ TW := tw_in 26 (by decide +kernel) (by decide +kernel)
abbrev mX0_init : MI := (yX0_init, cX0_init, 1, none, { frames := 2, cells := 9, slots := 170, locals := 60 })
theorem mk_X0_init : MK mX0_init 0 := ⟨tw_b1 188 (by decide +kernel) (by decide +kernel), tw_b1 8 (by decide +kernel) (by decide +kernel), by decide, by decide, by decide +kernel, by decide +kernel⟩
theorem mi_X0_init : Cond.instanceMethod yX0_init ∈ TW := tw_b1 187 (by decide +kernel) (by decide +kernel)
abbrev mX0_isNeverNegative : MI := (yX0_isNeverNegative, cX0_isNeverNegative, 4, some .boolean, { frames := 1, cells := 0, slots := 0, locals := 20 })
theorem mk_X0_isNeverNegative : MK mX0_isNeverNegative 3 := ⟨tw_b3 58 (by decide +kernel) (by decide +kernel), tw_b1 8 (by decide +kernel) (by decide +kernel), by decide, by decide, by decide +kernel, by decide +kernel⟩
theorem mi_X0_isNeverNegative : Cond.instanceMethod yX0_isNeverNegative ∈ TW := tw_b3 57 (by decide +kernel) (by decide +kernel)
theorem me_X0_isNeverNegative : Cond.selects RX0 yX0_isNeverNegative yX0_isNeverNegative ∈ TW := tw_in 33 (by decide +kernel) (by decide +kernel)
abbrev mX0_lowOf : MI := (yX0_lowOf, cX0_lowOf, 2, some .long, { frames := 1, cells := 0, slots := 0, locals := 20 })
theorem mk_X0_lowOf : MK mX0_lowOf 1 := ⟨tw_b3 2 (by decide +kernel) (by decide +kernel), tw_b1 8 (by decide +kernel) (by decide +kernel), by decide, by decide, by decide +kernel, by decide +kernel⟩
theorem mi_X0_lowOf : Cond.instanceMethod yX0_lowOf ∈ TW := tw_b3 1 (by decide +kernel) (by decide +kernel)
theorem me_X0_lowOf : Cond.selects RX0 yX0_lowOf yX0_lowOf ∈ TW := tw_in 25 (by decide +kernel) (by decide +kernel)
abbrev mX0_multiply : MI := (yX0_multiply, cX0_multiply, 17, none, { frames := 1, cells := 0, slots := 0, locals := 40 })
theorem mk_X0_multiply : MK mX0_multiply 4 := ⟨tw_b3 13 (by decide +kernel) (by decide +kernel), tw_b1 8 (by decide +kernel) (by decide +kernel), by decide, by decide, by decide +kernel, by decide +kernel⟩
theorem mi_X0_multiply : Cond.instanceMethod yX0_multiply ∈ TW := tw_b3 12 (by decide +kernel) (by decide +kernel)
theorem me_X0_multiply : Cond.selects RX0 yX0_multiply yX0_multiply ∈ TW := tw_in 27 (by decide +kernel) (by decide +kernel)
abbrev mX0_note : MI := (yX0_note, cX0_note, 2, none, { frames := 1, cells := 0, slots := 0, locals := 40 })
theorem mk_X0_note : MK mX0_note 1 := ⟨tw_b3 23 (by decide +kernel) (by decide +kernel), tw_b1 8 (by decide +kernel) (by decide +kernel), by decide, by decide, by decide +kernel, by decide +kernel⟩
theorem mi_X0_note : Cond.instanceMethod yX0_note ∈ TW := tw_b3 22 (by decide +kernel) (by decide +kernel)
theorem me_X0_note : Cond.selects RX0 yX0_note yX0_note ∈ TW := tw_in 28 (by decide +kernel) (by decide +kernel)
abbrev mX10_append : MI := (yX10_append, cX10_append, 2, some .int, { frames := 6, cells := 1, slots := 6, locals := 90 })
theorem mk_X10_append : MK mX10_append 1 := ⟨tw_b3 181 (by decide +kernel) (by decide +kernel), tw_b1 1 (by decide +kernel) (by decide +kernel), by decide, by decide, by decide +kernel, by decide +kernel⟩
theorem mi_X10_append : Cond.instanceMethod yX10_append ∈ TW := tw_b3 179 (by decide +kernel) (by decide +kernel)
theorem me_X10_append : Cond.selects RX10 yX10_append yX10_append ∈ TW := tw_b3 180 (by decide +kernel) (by decide +kernel)
abbrev mX10_canFailBetween : MI := (yX10_canFailBetween, cX10_canFailBetween, 4, some .boolean, { frames := 5, cells := 0, slots := 0, locals := 148 })
theorem mk_X10_canFailBetween : MK mX10_canFailBetween 3 := ⟨tw_b4 200 (by decide +kernel) (by decide +kernel), tw_b1 1 (by decide +kernel) (by decide +kernel), by decide, by decide, by decide +kernel, by decide +kernel⟩
theorem mi_X10_canFailBetween : Cond.instanceMethod yX10_canFailBetween ∈ TW := tw_b4 199 (by decide +kernel) (by decide +kernel)
theorem me_X10_canFailBetween : Cond.selects RX10 yX10_canFailBetween yX10_canFailBetween ∈ TW := tw_in 62 (by decide +kernel) (by decide +kernel)
abbrev mX10_checks : MI := (yX10_checks, cX10_checks, 2, some .int, { frames := 7, cells := 0, slots := 0, locals := 188 })
theorem mk_X10_checks : MK mX10_checks 1 := ⟨tw_b3 136 (by decide +kernel) (by decide +kernel), tw_b1 1 (by decide +kernel) (by decide +kernel), by decide, by decide, by decide +kernel, by decide +kernel⟩
theorem mi_X10_checks : Cond.instanceMethod yX10_checks ∈ TW := tw_b3 134 (by decide +kernel) (by decide +kernel)
theorem me_X10_checks : Cond.selects RX10 yX10_checks yX10_checks ∈ TW := tw_b3 135 (by decide +kernel) (by decide +kernel)
abbrev mX10_clearText : MI := (yX10_clearText, cX10_clearText, 2, some .int, { frames := 0, cells := 0, slots := 0, locals := 0 })
theorem mk_X10_clearText : MK mX10_clearText 0 := ⟨tw_b2 111 (by decide +kernel) (by decide +kernel), tw_b1 1 (by decide +kernel) (by decide +kernel), by decide, by decide, by decide +kernel, by decide +kernel⟩
theorem mi_X10_clearText : Cond.instanceMethod yX10_clearText ∈ TW := tw_b2 109 (by decide +kernel) (by decide +kernel)
theorem me_X10_clearText : Cond.selects RX10 yX10_clearText yX10_clearText ∈ TW := tw_b2 110 (by decide +kernel) (by decide +kernel)
abbrev mX10_completes : MI := (yX10_completes, cX10_completes, 1, some .boolean, { frames := 6, cells := 0, slots := 0, locals := 168 })
theorem mk_X10_completes : MK mX10_completes 0 := ⟨tw_b2 209 (by decide +kernel) (by decide +kernel), tw_b1 1 (by decide +kernel) (by decide +kernel), by decide, by decide, by decide +kernel, by decide +kernel⟩
theorem mi_X10_completes : Cond.instanceMethod yX10_completes ∈ TW := tw_b2 207 (by decide +kernel) (by decide +kernel)
theorem me_X10_completes : Cond.selects RX10 yX10_completes yX10_completes ∈ TW := tw_b2 208 (by decide +kernel) (by decide +kernel)
abbrev mX10_coveredBy : MI := (yX10_coveredBy, cX10_coveredBy, 2, some .int, { frames := 7, cells := 1, slots := 6, locals := 168 })
theorem mk_X10_coveredBy : MK mX10_coveredBy 1 := ⟨tw_b4 139 (by decide +kernel) (by decide +kernel), tw_b1 1 (by decide +kernel) (by decide +kernel), by decide, by decide, by decide +kernel, by decide +kernel⟩
theorem mi_X10_coveredBy : Cond.instanceMethod yX10_coveredBy ∈ TW := tw_b4 137 (by decide +kernel) (by decide +kernel)
theorem me_X10_coveredBy : Cond.selects RX10 yX10_coveredBy yX10_coveredBy ∈ TW := tw_b4 138 (by decide +kernel) (by decide +kernel)
abbrev mX10_digest : MI := (yX10_digest, cX10_digest, 4, some .long, { frames := 7, cells := 0, slots := 0, locals := 188 })
theorem mk_X10_digest : MK mX10_digest 0 := ⟨tw_b3 148 (by decide +kernel) (by decide +kernel), tw_b1 1 (by decide +kernel) (by decide +kernel), by decide, by decide, by decide +kernel, by decide +kernel⟩
theorem mi_X10_digest : Cond.instanceMethod yX10_digest ∈ TW := tw_b3 146 (by decide +kernel) (by decide +kernel)
theorem me_X10_digest : Cond.selects RX10 yX10_digest yX10_digest ∈ TW := tw_b3 147 (by decide +kernel) (by decide +kernel)
abbrev mX10_executed : MI := (yX10_executed, cX10_executed, 1, some .int, { frames := 7, cells := 0, slots := 0, locals := 188 })
theorem mk_X10_executed : MK mX10_executed 0 := ⟨tw_b3 140 (by decide +kernel) (by decide +kernel), tw_b1 1 (by decide +kernel) (by decide +kernel), by decide, by decide, by decide +kernel, by decide +kernel⟩
theorem mi_X10_executed : Cond.instanceMethod yX10_executed ∈ TW := tw_b3 138 (by decide +kernel) (by decide +kernel)
theorem me_X10_executed : Cond.selects RX10 yX10_executed yX10_executed ∈ TW := tw_b3 139 (by decide +kernel) (by decide +kernel)
abbrev mX10_failingInput : MI := (yX10_failingInput, cX10_failingInput, 10, some .int, { frames := 7, cells := 1, slots := 6, locals := 171 })
theorem mk_X10_failingInput : MK mX10_failingInput 1 := ⟨tw_b4 186 (by decide +kernel) (by decide +kernel), tw_b1 1 (by decide +kernel) (by decide +kernel), by decide, by decide, by decide +kernel, by decide +kernel⟩
theorem mi_X10_failingInput : Cond.instanceMethod yX10_failingInput ∈ TW := tw_b4 184 (by decide +kernel) (by decide +kernel)
theorem me_X10_failingInput : Cond.selects RX10 yX10_failingInput yX10_failingInput ∈ TW := tw_b4 185 (by decide +kernel) (by decide +kernel)
abbrev mX10_failsWith : MI := (yX10_failsWith, cX10_failsWith, 3, some .boolean, { frames := 5, cells := 0, slots := 0, locals := 113 })
theorem mk_X10_failsWith : MK mX10_failsWith 2 := ⟨tw_b4 196 (by decide +kernel) (by decide +kernel), tw_b1 1 (by decide +kernel) (by decide +kernel), by decide, by decide, by decide +kernel, by decide +kernel⟩
theorem mi_X10_failsWith : Cond.instanceMethod yX10_failsWith ∈ TW := tw_b4 195 (by decide +kernel) (by decide +kernel)
theorem me_X10_failsWith : Cond.selects RX10 yX10_failsWith yX10_failsWith ∈ TW := tw_in 61 (by decide +kernel) (by decide +kernel)
abbrev mX10_failure : MI := (yX10_failure, cX10_failure, 2, some .int, { frames := 7, cells := 0, slots := 0, locals := 188 })
theorem mk_X10_failure : MK mX10_failure 1 := ⟨tw_b3 85 (by decide +kernel) (by decide +kernel), tw_b1 1 (by decide +kernel) (by decide +kernel), by decide, by decide, by decide +kernel, by decide +kernel⟩
theorem mi_X10_failure : Cond.instanceMethod yX10_failure ∈ TW := tw_b3 83 (by decide +kernel) (by decide +kernel)
theorem me_X10_failure : Cond.selects RX10 yX10_failure yX10_failure ∈ TW := tw_b3 84 (by decide +kernel) (by decide +kernel)
abbrev mX10_finalRange : MI := (yX10_finalRange, cX10_finalRange, 3, some .int, { frames := 7, cells := 1, slots := 6, locals := 168 })
theorem mk_X10_finalRange : MK mX10_finalRange 2 := ⟨tw_b4 153 (by decide +kernel) (by decide +kernel), tw_b1 1 (by decide +kernel) (by decide +kernel), by decide, by decide, by decide +kernel, by decide +kernel⟩
theorem mi_X10_finalRange : Cond.instanceMethod yX10_finalRange ∈ TW := tw_b4 151 (by decide +kernel) (by decide +kernel)
theorem me_X10_finalRange : Cond.selects RX10 yX10_finalRange yX10_finalRange ∈ TW := tw_b4 152 (by decide +kernel) (by decide +kernel)
abbrev mX10_forgetAnswers : MI := (yX10_forgetAnswers, cX10_forgetAnswers, 1, none, { frames := 0, cells := 0, slots := 0, locals := 0 })
theorem mk_X10_forgetAnswers : MK mX10_forgetAnswers 0 := ⟨tw_b2 200 (by decide +kernel) (by decide +kernel), tw_b1 1 (by decide +kernel) (by decide +kernel), by decide, by decide, by decide +kernel, by decide +kernel⟩
theorem mi_X10_forgetAnswers : Cond.instanceMethod yX10_forgetAnswers ∈ TW := tw_b2 199 (by decide +kernel) (by decide +kernel)
theorem me_X10_forgetAnswers : Cond.selects RX10 yX10_forgetAnswers yX10_forgetAnswers ∈ TW := tw_in 17 (by decide +kernel) (by decide +kernel)
abbrev mX10_freshenAnalysis : MI := (yX10_freshenAnalysis, cX10_freshenAnalysis, 1, none, { frames := 5, cells := 0, slots := 0, locals := 148 })
theorem mk_X10_freshenAnalysis : MK mX10_freshenAnalysis 0 := ⟨tw_b2 213 (by decide +kernel) (by decide +kernel), tw_b1 1 (by decide +kernel) (by decide +kernel), by decide, by decide, by decide +kernel, by decide +kernel⟩
theorem mi_X10_freshenAnalysis : Cond.instanceMethod yX10_freshenAnalysis ∈ TW := tw_b2 212 (by decide +kernel) (by decide +kernel)
theorem me_X10_freshenAnalysis : Cond.selects RX10 yX10_freshenAnalysis yX10_freshenAnalysis ∈ TW := tw_in 18 (by decide +kernel) (by decide +kernel)
abbrev mX10_freshenRuns : MI := (yX10_freshenRuns, cX10_freshenRuns, 1, none, { frames := 6, cells := 0, slots := 0, locals := 168 })
theorem mk_X10_freshenRuns : MK mX10_freshenRuns 0 := ⟨tw_b3 89 (by decide +kernel) (by decide +kernel), tw_b1 1 (by decide +kernel) (by decide +kernel), by decide, by decide, by decide +kernel, by decide +kernel⟩
theorem mi_X10_freshenRuns : Cond.instanceMethod yX10_freshenRuns ∈ TW := tw_b3 88 (by decide +kernel) (by decide +kernel)
theorem me_X10_freshenRuns : Cond.selects RX10 yX10_freshenRuns yX10_freshenRuns ∈ TW := tw_in 39 (by decide +kernel) (by decide +kernel)
abbrev mX10_init : MI := (yX10_init, cX10_init, 1, none, { frames := 4, cells := 116, slots := 2113, locals := 102 })
theorem mk_X10_init : MK mX10_init 0 := ⟨tw_b1 25 (by decide +kernel) (by decide +kernel), tw_b1 1 (by decide +kernel) (by decide +kernel), by decide, by decide, by decide +kernel, by decide +kernel⟩
theorem mi_X10_init : Cond.instanceMethod yX10_init ∈ TW := tw_b1 24 (by decide +kernel) (by decide +kernel)
abbrev mX10_input : MI := (yX10_input, cX10_input, 3, some .int, { frames := 7, cells := 1, slots := 6, locals := 110 })
theorem mk_X10_input : MK mX10_input 2 := ⟨tw_b4 79 (by decide +kernel) (by decide +kernel), tw_b1 1 (by decide +kernel) (by decide +kernel), by decide, by decide, by decide +kernel, by decide +kernel⟩
theorem mi_X10_input : Cond.instanceMethod yX10_input ∈ TW := tw_b4 77 (by decide +kernel) (by decide +kernel)
theorem me_X10_input : Cond.selects RX10 yX10_input yX10_input ∈ TW := tw_b4 78 (by decide +kernel) (by decide +kernel)
abbrev mX10_instruction : MI := (yX10_instruction, cX10_instruction, 3, some .int, { frames := 7, cells := 1, slots := 6, locals := 111 })
theorem mk_X10_instruction : MK mX10_instruction 2 := ⟨tw_b4 109 (by decide +kernel) (by decide +kernel), tw_b1 1 (by decide +kernel) (by decide +kernel), by decide, by decide, by decide +kernel, by decide +kernel⟩
theorem mi_X10_instruction : Cond.instanceMethod yX10_instruction ∈ TW := tw_b4 107 (by decide +kernel) (by decide +kernel)
theorem me_X10_instruction : Cond.selects RX10 yX10_instruction yX10_instruction ∈ TW := tw_b4 108 (by decide +kernel) (by decide +kernel)
abbrev mX10_instructions : MI := (yX10_instructions, cX10_instructions, 1, some .int, { frames := 0, cells := 0, slots := 0, locals := 0 })
theorem mk_X10_instructions : MK mX10_instructions 0 := ⟨tw_b2 205 (by decide +kernel) (by decide +kernel), tw_b1 1 (by decide +kernel) (by decide +kernel), by decide, by decide, by decide +kernel, by decide +kernel⟩
theorem mi_X10_instructions : Cond.instanceMethod yX10_instructions ∈ TW := tw_b2 203 (by decide +kernel) (by decide +kernel)
theorem me_X10_instructions : Cond.selects RX10 yX10_instructions yX10_instructions ∈ TW := tw_b2 204 (by decide +kernel) (by decide +kernel)
abbrev mX10_isInt : MI := (yX10_isInt, cX10_isInt, 2, some .boolean, { frames := 0, cells := 0, slots := 0, locals := 0 })
theorem mk_X10_isInt : MK mX10_isInt 1 := ⟨tw_b3 26 (by decide +kernel) (by decide +kernel), tw_b1 1 (by decide +kernel) (by decide +kernel), by decide, by decide, by decide +kernel, by decide +kernel⟩
theorem ms_X10_isInt : Cond.static yX10_isInt ∈ TW := tw_b3 25 (by decide +kernel) (by decide +kernel)
abbrev mX10_isVariable : MI := (yX10_isVariable, cX10_isVariable, 1, some .boolean, { frames := 0, cells := 0, slots := 0, locals := 0 })
theorem mk_X10_isVariable : MK mX10_isVariable 1 := ⟨tw_b3 5 (by decide +kernel) (by decide +kernel), tw_b1 1 (by decide +kernel) (by decide +kernel), by decide, by decide, by decide +kernel, by decide +kernel⟩
theorem ms_X10_isVariable : Cond.static yX10_isVariable ∈ TW := tw_b3 4 (by decide +kernel) (by decide +kernel)
abbrev mX10_mixed : MI := (yX10_mixed, cX10_mixed, 4, some .long, { frames := 0, cells := 0, slots := 0, locals := 0 })
theorem mk_X10_mixed : MK mX10_mixed 2 := ⟨tw_b3 152 (by decide +kernel) (by decide +kernel), tw_b1 1 (by decide +kernel) (by decide +kernel), by decide, by decide, by decide +kernel, by decide +kernel⟩
theorem ms_X10_mixed : Cond.static yX10_mixed ∈ TW := tw_b3 151 (by decide +kernel) (by decide +kernel)
abbrev mX10_mixedInstruction : MI := (yX10_mixedInstruction, cX10_mixedInstruction, 7, some .long, { frames := 1, cells := 0, slots := 0, locals := 23 })
theorem mk_X10_mixedInstruction : MK mX10_mixedInstruction 2 := ⟨tw_b3 157 (by decide +kernel) (by decide +kernel), tw_b1 1 (by decide +kernel) (by decide +kernel), by decide, by decide, by decide +kernel, by decide +kernel⟩
theorem mi_X10_mixedInstruction : Cond.instanceMethod yX10_mixedInstruction ∈ TW := tw_b3 156 (by decide +kernel) (by decide +kernel)
theorem me_X10_mixedInstruction : Cond.selects RX10 yX10_mixedInstruction yX10_mixedInstruction ∈ TW := tw_in 49 (by decide +kernel) (by decide +kernel)
abbrev mX10_mixedRun : MI := (yX10_mixedRun, cX10_mixedRun, 7, some .long, { frames := 1, cells := 0, slots := 0, locals := 23 })
theorem mk_X10_mixedRun : MK mX10_mixedRun 3 := ⟨tw_b3 172 (by decide +kernel) (by decide +kernel), tw_b1 1 (by decide +kernel) (by decide +kernel), by decide, by decide, by decide +kernel, by decide +kernel⟩
theorem ms_X10_mixedRun : Cond.static yX10_mixedRun ∈ TW := tw_b3 171 (by decide +kernel) (by decide +kernel)
abbrev mX10_mixedVariable : MI := (yX10_mixedVariable, cX10_mixedVariable, 7, some .long, { frames := 1, cells := 0, slots := 0, locals := 23 })
theorem mk_X10_mixedVariable : MK mX10_mixedVariable 2 := ⟨tw_b3 161 (by decide +kernel) (by decide +kernel), tw_b1 1 (by decide +kernel) (by decide +kernel), by decide, by decide, by decide +kernel, by decide +kernel⟩
theorem mi_X10_mixedVariable : Cond.instanceMethod yX10_mixedVariable ∈ TW := tw_b3 160 (by decide +kernel) (by decide +kernel)
theorem me_X10_mixedVariable : Cond.selects RX10 yX10_mixedVariable yX10_mixedVariable ∈ TW := tw_in 50 (by decide +kernel) (by decide +kernel)
abbrev mX10_openChecksWith : MI := (yX10_openChecksWith, cX10_openChecksWith, 4, some .int, { frames := 5, cells := 0, slots := 0, locals := 148 })
theorem mk_X10_openChecksWith : MK mX10_openChecksWith 3 := ⟨tw_b4 171 (by decide +kernel) (by decide +kernel), tw_b1 1 (by decide +kernel) (by decide +kernel), by decide, by decide, by decide +kernel, by decide +kernel⟩
theorem mi_X10_openChecksWith : Cond.instanceMethod yX10_openChecksWith ∈ TW := tw_b4 170 (by decide +kernel) (by decide +kernel)
theorem me_X10_openChecksWith : Cond.selects RX10 yX10_openChecksWith yX10_openChecksWith ∈ TW := tw_in 59 (by decide +kernel) (by decide +kernel)
abbrev mX10_openWith : MI := (yX10_openWith, cX10_openWith, 4, some .int, { frames := 7, cells := 2, slots := 12, locals := 171 })
theorem mk_X10_openWith : MK mX10_openWith 3 := ⟨tw_b4 167 (by decide +kernel) (by decide +kernel), tw_b1 1 (by decide +kernel) (by decide +kernel), by decide, by decide, by decide +kernel, by decide +kernel⟩
theorem mi_X10_openWith : Cond.instanceMethod yX10_openWith ∈ TW := tw_b4 165 (by decide +kernel) (by decide +kernel)
theorem me_X10_openWith : Cond.selects RX10 yX10_openWith yX10_openWith ∈ TW := tw_b4 166 (by decide +kernel) (by decide +kernel)
abbrev mX10_operand : MI := (yX10_operand, cX10_operand, 4, some .int, { frames := 7, cells := 1, slots := 6, locals := 111 })
theorem mk_X10_operand : MK mX10_operand 2 := ⟨tw_b4 117 (by decide +kernel) (by decide +kernel), tw_b1 1 (by decide +kernel) (by decide +kernel), by decide, by decide, by decide +kernel, by decide +kernel⟩
theorem mi_X10_operand : Cond.instanceMethod yX10_operand ∈ TW := tw_b4 115 (by decide +kernel) (by decide +kernel)
theorem me_X10_operand : Cond.selects RX10 yX10_operand yX10_operand ∈ TW := tw_b4 116 (by decide +kernel) (by decide +kernel)
abbrev mX10_outcomeOf : MI := (yX10_outcomeOf, cX10_outcomeOf, 2, some (.object "OverflowGuards$Run"), { frames := 0, cells := 0, slots := 0, locals := 0 })
theorem mk_X10_outcomeOf : MK mX10_outcomeOf 1 := ⟨tw_b3 132 (by decide +kernel) (by decide +kernel), tw_b1 1 (by decide +kernel) (by decide +kernel), by decide, by decide, by decide +kernel, by decide +kernel⟩
theorem mi_X10_outcomeOf : Cond.instanceMethod yX10_outcomeOf ∈ TW := tw_b3 131 (by decide +kernel) (by decide +kernel)
theorem me_X10_outcomeOf : Cond.selects RX10 yX10_outcomeOf yX10_outcomeOf ∈ TW := tw_in 48 (by decide +kernel) (by decide +kernel)
abbrev mX10_parse : MI := (yX10_parse, cX10_parse, 2, some .int, { frames := 6, cells := 0, slots := 0, locals := 133 })
theorem mk_X10_parse : MK mX10_parse 0 := ⟨tw_b2 115 (by decide +kernel) (by decide +kernel), tw_b1 1 (by decide +kernel) (by decide +kernel), by decide, by decide, by decide +kernel, by decide +kernel⟩
theorem mi_X10_parse : Cond.instanceMethod yX10_parse ∈ TW := tw_b2 113 (by decide +kernel) (by decide +kernel)
theorem me_X10_parse : Cond.selects RX10 yX10_parse yX10_parse ∈ TW := tw_b2 114 (by decide +kernel) (by decide +kernel)
abbrev mX10_range : MI := (yX10_range, cX10_range, 3, some .long, { frames := 7, cells := 2, slots := 12, locals := 168 })
theorem mk_X10_range : MK mX10_range 2 := ⟨tw_b4 146 (by decide +kernel) (by decide +kernel), tw_b1 1 (by decide +kernel) (by decide +kernel), by decide, by decide, by decide +kernel, by decide +kernel⟩
theorem mi_X10_range : Cond.instanceMethod yX10_range ∈ TW := tw_b4 144 (by decide +kernel) (by decide +kernel)
theorem me_X10_range : Cond.selects RX10 yX10_range yX10_range ∈ TW := tw_b4 145 (by decide +kernel) (by decide +kernel)
abbrev mX10_remove : MI := (yX10_remove, cX10_remove, 2, some .int, { frames := 7, cells := 2, slots := 12, locals := 123 })
theorem mk_X10_remove : MK mX10_remove 1 := ⟨tw_b4 87 (by decide +kernel) (by decide +kernel), tw_b1 1 (by decide +kernel) (by decide +kernel), by decide, by decide, by decide +kernel, by decide +kernel⟩
theorem mi_X10_remove : Cond.instanceMethod yX10_remove ∈ TW := tw_b4 85 (by decide +kernel) (by decide +kernel)
theorem me_X10_remove : Cond.selects RX10 yX10_remove yX10_remove ∈ TW := tw_b4 86 (by decide +kernel) (by decide +kernel)
abbrev mX10_requireInstruction : MI := (yX10_requireInstruction, cX10_requireInstruction, 2, none, { frames := 6, cells := 1, slots := 6, locals := 90 })
theorem mk_X10_requireInstruction : MK mX10_requireInstruction 1 := ⟨tw_b4 91 (by decide +kernel) (by decide +kernel), tw_b1 1 (by decide +kernel) (by decide +kernel), by decide, by decide, by decide +kernel, by decide +kernel⟩
theorem mi_X10_requireInstruction : Cond.instanceMethod yX10_requireInstruction ∈ TW := tw_b4 90 (by decide +kernel) (by decide +kernel)
theorem me_X10_requireInstruction : Cond.selects RX10 yX10_requireInstruction yX10_requireInstruction ∈ TW := tw_in 56 (by decide +kernel) (by decide +kernel)
abbrev mX10_requireNoLoopEdge : MI := (yX10_requireNoLoopEdge, cX10_requireNoLoopEdge, 2, none, { frames := 6, cells := 1, slots := 6, locals := 90 })
theorem mk_X10_requireNoLoopEdge : MK mX10_requireNoLoopEdge 1 := ⟨tw_b4 96 (by decide +kernel) (by decide +kernel), tw_b1 1 (by decide +kernel) (by decide +kernel), by decide, by decide, by decide +kernel, by decide +kernel⟩
theorem mi_X10_requireNoLoopEdge : Cond.instanceMethod yX10_requireNoLoopEdge ∈ TW := tw_b4 95 (by decide +kernel) (by decide +kernel)
theorem me_X10_requireNoLoopEdge : Cond.selects RX10 yX10_requireNoLoopEdge yX10_requireNoLoopEdge ∈ TW := tw_in 57 (by decide +kernel) (by decide +kernel)
abbrev mX10_requireOrder : MI := (yX10_requireOrder, cX10_requireOrder, 2, none, { frames := 6, cells := 1, slots := 6, locals := 90 })
theorem mk_X10_requireOrder : MK mX10_requireOrder 2 := ⟨tw_b4 59 (by decide +kernel) (by decide +kernel), tw_b1 1 (by decide +kernel) (by decide +kernel), by decide, by decide, by decide +kernel, by decide +kernel⟩
theorem ms_X10_requireOrder : Cond.static yX10_requireOrder ∈ TW := tw_b4 58 (by decide +kernel) (by decide +kernel)
abbrev mX10_requireVariable : MI := (yX10_requireVariable, cX10_requireVariable, 1, none, { frames := 6, cells := 1, slots := 6, locals := 90 })
theorem mk_X10_requireVariable : MK mX10_requireVariable 1 := ⟨tw_b4 40 (by decide +kernel) (by decide +kernel), tw_b1 1 (by decide +kernel) (by decide +kernel), by decide, by decide, by decide +kernel, by decide +kernel⟩
theorem ms_X10_requireVariable : Cond.static yX10_requireVariable ∈ TW := tw_b4 39 (by decide +kernel) (by decide +kernel)
abbrev mX10_result : MI := (yX10_result, cX10_result, 3, some .int, { frames := 7, cells := 1, slots := 6, locals := 188 })
theorem mk_X10_result : MK mX10_result 2 := ⟨tw_b4 160 (by decide +kernel) (by decide +kernel), tw_b1 1 (by decide +kernel) (by decide +kernel), by decide, by decide, by decide +kernel, by decide +kernel⟩
theorem mi_X10_result : Cond.instanceMethod yX10_result ∈ TW := tw_b4 158 (by decide +kernel) (by decide +kernel)
theorem me_X10_result : Cond.selects RX10 yX10_result yX10_result ∈ TW := tw_b4 159 (by decide +kernel) (by decide +kernel)
abbrev mX10_safePower : MI := (yX10_safePower, cX10_safePower, 6, some .int, { frames := 7, cells := 1, slots := 6, locals := 171 })
theorem mk_X10_safePower : MK mX10_safePower 1 := ⟨tw_b4 179 (by decide +kernel) (by decide +kernel), tw_b1 1 (by decide +kernel) (by decide +kernel), by decide, by decide, by decide +kernel, by decide +kernel⟩
theorem mi_X10_safePower : Cond.instanceMethod yX10_safePower ∈ TW := tw_b4 177 (by decide +kernel) (by decide +kernel)
theorem me_X10_safePower : Cond.selects RX10 yX10_safePower yX10_safePower ∈ TW := tw_b4 178 (by decide +kernel) (by decide +kernel)
abbrev mX10_saveForUndo : MI := (yX10_saveForUndo, cX10_saveForUndo, 1, none, { frames := 4, cells := 0, slots := 0, locals := 103 })
theorem mk_X10_saveForUndo : MK mX10_saveForUndo 0 := ⟨tw_b2 172 (by decide +kernel) (by decide +kernel), tw_b1 1 (by decide +kernel) (by decide +kernel), by decide, by decide, by decide +kernel, by decide +kernel⟩
theorem mi_X10_saveForUndo : Cond.instanceMethod yX10_saveForUndo ∈ TW := tw_b2 171 (by decide +kernel) (by decide +kernel)
theorem me_X10_saveForUndo : Cond.selects RX10 yX10_saveForUndo yX10_saveForUndo ∈ TW := tw_in 11 (by decide +kernel) (by decide +kernel)
abbrev mX10_saving : MI := (yX10_saving, cX10_saving, 1, some .double, { frames := 7, cells := 0, slots := 0, locals := 188 })
theorem mk_X10_saving : MK mX10_saving 0 := ⟨tw_b3 144 (by decide +kernel) (by decide +kernel), tw_b1 1 (by decide +kernel) (by decide +kernel), by decide, by decide, by decide +kernel, by decide +kernel⟩
theorem mi_X10_saving : Cond.instanceMethod yX10_saving ∈ TW := tw_b3 142 (by decide +kernel) (by decide +kernel)
theorem me_X10_saving : Cond.selects RX10 yX10_saving yX10_saving ∈ TW := tw_b3 143 (by decide +kernel) (by decide +kernel)
abbrev mX10_setInput : MI := (yX10_setInput, cX10_setInput, 5, some .int, { frames := 7, cells := 1, slots := 6, locals := 123 })
theorem mk_X10_setInput : MK mX10_setInput 2 := ⟨tw_b4 71 (by decide +kernel) (by decide +kernel), tw_b1 1 (by decide +kernel) (by decide +kernel), by decide, by decide, by decide +kernel, by decide +kernel⟩
theorem mi_X10_setInput : Cond.instanceMethod yX10_setInput ∈ TW := tw_b4 69 (by decide +kernel) (by decide +kernel)
theorem me_X10_setInput : Cond.selects RX10 yX10_setInput yX10_setInput ∈ TW := tw_b4 70 (by decide +kernel) (by decide +kernel)
abbrev mX10_setRange : MI := (yX10_setRange, cX10_setRange, 4, some .int, { frames := 7, cells := 2, slots := 12, locals := 123 })
theorem mk_X10_setRange : MK mX10_setRange 3 := ⟨tw_b4 37 (by decide +kernel) (by decide +kernel), tw_b1 1 (by decide +kernel) (by decide +kernel), by decide, by decide, by decide +kernel, by decide +kernel⟩
theorem mi_X10_setRange : Cond.instanceMethod yX10_setRange ∈ TW := tw_b4 35 (by decide +kernel) (by decide +kernel)
theorem me_X10_setRange : Cond.selects RX10 yX10_setRange yX10_setRange ∈ TW := tw_b4 36 (by decide +kernel) (by decide +kernel)
abbrev mX10_state : MI := (yX10_state, cX10_state, 2, some .int, { frames := 7, cells := 1, slots := 6, locals := 168 })
theorem mk_X10_state : MK mX10_state 1 := ⟨tw_b4 124 (by decide +kernel) (by decide +kernel), tw_b1 1 (by decide +kernel) (by decide +kernel), by decide, by decide, by decide +kernel, by decide +kernel⟩
theorem mi_X10_state : Cond.instanceMethod yX10_state ∈ TW := tw_b4 122 (by decide +kernel) (by decide +kernel)
theorem me_X10_state : Cond.selects RX10 yX10_state yX10_state ∈ TW := tw_b4 123 (by decide +kernel) (by decide +kernel)
abbrev mX10_states : MI := (yX10_states, cX10_states, 4, some .int, { frames := 6, cells := 1, slots := 6, locals := 168 })
theorem mk_X10_states : MK mX10_states 1 := ⟨tw_b4 131 (by decide +kernel) (by decide +kernel), tw_b1 1 (by decide +kernel) (by decide +kernel), by decide, by decide, by decide +kernel, by decide +kernel⟩
theorem mi_X10_states : Cond.instanceMethod yX10_states ∈ TW := tw_b4 129 (by decide +kernel) (by decide +kernel)
theorem me_X10_states : Cond.selects RX10 yX10_states yX10_states ∈ TW := tw_b4 130 (by decide +kernel) (by decide +kernel)
abbrev mX10_undo : MI := (yX10_undo, cX10_undo, 1, some .int, { frames := 6, cells := 1, slots := 6, locals := 103 })
theorem mk_X10_undo : MK mX10_undo 0 := ⟨tw_b4 208 (by decide +kernel) (by decide +kernel), tw_b1 1 (by decide +kernel) (by decide +kernel), by decide, by decide, by decide +kernel, by decide +kernel⟩
theorem mi_X10_undo : Cond.instanceMethod yX10_undo ∈ TW := tw_b4 206 (by decide +kernel) (by decide +kernel)
theorem me_X10_undo : Cond.selects RX10 yX10_undo yX10_undo ∈ TW := tw_b4 207 (by decide +kernel) (by decide +kernel)
abbrev mX11_analyses : MI := (yX11_analyses, cX11_analyses, 2, none, { frames := 4, cells := 0, slots := 0, locals := 92 })
theorem mk_X11_analyses : MK mX11_analyses 0 := ⟨tw_b5 210 (by decide +kernel) (by decide +kernel), tw_b1 12 (by decide +kernel) (by decide +kernel), by decide, by decide, by decide +kernel, by decide +kernel⟩
theorem mi_X11_analyses : Cond.instanceMethod yX11_analyses ∈ TW := tw_b5 209 (by decide +kernel) (by decide +kernel)
theorem me_X11_analyses : Cond.selects RX11 yX11_analyses yX11_analyses ∈ TW := tw_in 80 (by decide +kernel) (by decide +kernel)
abbrev mX11_append : MI := (yX11_append, cX11_append, 2, some .int, { frames := 1, cells := 0, slots := 0, locals := 25 })
theorem mk_X11_append : MK mX11_append 1 := ⟨tw_b5 87 (by decide +kernel) (by decide +kernel), tw_b1 12 (by decide +kernel) (by decide +kernel), by decide, by decide, by decide +kernel, by decide +kernel⟩
theorem mi_X11_append : Cond.instanceMethod yX11_append ∈ TW := tw_b5 85 (by decide +kernel) (by decide +kernel)
theorem me_X11_append : Cond.selects RX11 yX11_append yX11_append ∈ TW := tw_b5 86 (by decide +kernel) (by decide +kernel)
abbrev mX11_checks : MI := (yX11_checks, cX11_checks, 2, some .int, { frames := 6, cells := 0, slots := 0, locals := 135 })
theorem mk_X11_checks : MK mX11_checks 1 := ⟨tw_b6 85 (by decide +kernel) (by decide +kernel), tw_b1 12 (by decide +kernel) (by decide +kernel), by decide, by decide, by decide +kernel, by decide +kernel⟩
theorem mi_X11_checks : Cond.instanceMethod yX11_checks ∈ TW := tw_b6 83 (by decide +kernel) (by decide +kernel)
theorem me_X11_checks : Cond.selects RX11 yX11_checks yX11_checks ∈ TW := tw_b6 84 (by decide +kernel) (by decide +kernel)
abbrev mX11_checksLoop : MI := (yX11_checksLoop, cX11_checksLoop, 3, none, { frames := 2, cells := 0, slots := 0, locals := 46 })
theorem mk_X11_checksLoop : MK mX11_checksLoop 1 := ⟨tw_b6 62 (by decide +kernel) (by decide +kernel), tw_b1 12 (by decide +kernel) (by decide +kernel), by decide, by decide, by decide +kernel, by decide +kernel⟩
theorem mi_X11_checksLoop : Cond.instanceMethod yX11_checksLoop ∈ TW := tw_b6 61 (by decide +kernel) (by decide +kernel)
theorem me_X11_checksLoop : Cond.selects RX11 yX11_checksLoop yX11_checksLoop ∈ TW := tw_in 94 (by decide +kernel) (by decide +kernel)
abbrev mX11_clearText : MI := (yX11_clearText, cX11_clearText, 2, some .int, { frames := 0, cells := 0, slots := 0, locals := 0 })
theorem mk_X11_clearText : MK mX11_clearText 0 := ⟨tw_b5 99 (by decide +kernel) (by decide +kernel), tw_b1 12 (by decide +kernel) (by decide +kernel), by decide, by decide, by decide +kernel, by decide +kernel⟩
theorem mi_X11_clearText : Cond.instanceMethod yX11_clearText ∈ TW := tw_b5 97 (by decide +kernel) (by decide +kernel)
theorem me_X11_clearText : Cond.selects RX11 yX11_clearText yX11_clearText ∈ TW := tw_b5 98 (by decide +kernel) (by decide +kernel)
abbrev mX11_completes : MI := (yX11_completes, cX11_completes, 1, some .boolean, { frames := 5, cells := 0, slots := 0, locals := 113 })
theorem mk_X11_completes : MK mX11_completes 0 := ⟨tw_b6 46 (by decide +kernel) (by decide +kernel), tw_b1 12 (by decide +kernel) (by decide +kernel), by decide, by decide, by decide +kernel, by decide +kernel⟩
theorem mi_X11_completes : Cond.instanceMethod yX11_completes ∈ TW := tw_b6 44 (by decide +kernel) (by decide +kernel)
theorem me_X11_completes : Cond.selects RX11 yX11_completes yX11_completes ∈ TW := tw_b6 45 (by decide +kernel) (by decide +kernel)
abbrev mX11_coverOf : MI := (yX11_coverOf, cX11_coverOf, 9, some .int, { frames := 3, cells := 0, slots := 0, locals := 64 })
theorem mk_X11_coverOf : MK mX11_coverOf 1 := ⟨tw_b6 6 (by decide +kernel) (by decide +kernel), tw_b1 12 (by decide +kernel) (by decide +kernel), by decide, by decide, by decide +kernel, by decide +kernel⟩
theorem mi_X11_coverOf : Cond.instanceMethod yX11_coverOf ∈ TW := tw_b6 5 (by decide +kernel) (by decide +kernel)
theorem me_X11_coverOf : Cond.selects RX11 yX11_coverOf yX11_coverOf ∈ TW := tw_in 87 (by decide +kernel) (by decide +kernel)
abbrev mX11_coveredBy : MI := (yX11_coveredBy, cX11_coveredBy, 2, some .int, { frames := 5, cells := 0, slots := 0, locals := 113 })
theorem mk_X11_coveredBy : MK mX11_coveredBy 1 := ⟨tw_b6 30 (by decide +kernel) (by decide +kernel), tw_b1 12 (by decide +kernel) (by decide +kernel), by decide, by decide, by decide +kernel, by decide +kernel⟩
theorem mi_X11_coveredBy : Cond.instanceMethod yX11_coveredBy ∈ TW := tw_b6 28 (by decide +kernel) (by decide +kernel)
theorem me_X11_coveredBy : Cond.selects RX11 yX11_coveredBy yX11_coveredBy ∈ TW := tw_b6 29 (by decide +kernel) (by decide +kernel)
abbrev mX11_digest : MI := (yX11_digest, cX11_digest, 5, some .long, { frames := 7, cells := 0, slots := 0, locals := 162 })
theorem mk_X11_digest : MK mX11_digest 0 := ⟨tw_b6 119 (by decide +kernel) (by decide +kernel), tw_b1 12 (by decide +kernel) (by decide +kernel), by decide, by decide, by decide +kernel, by decide +kernel⟩
theorem mi_X11_digest : Cond.instanceMethod yX11_digest ∈ TW := tw_b6 117 (by decide +kernel) (by decide +kernel)
theorem me_X11_digest : Cond.selects RX11 yX11_digest yX11_digest ∈ TW := tw_b6 118 (by decide +kernel) (by decide +kernel)
abbrev mX11_exact : MI := (yX11_exact, cX11_exact, 6, some .long, { frames := 2, cells := 0, slots := 0, locals := 43 })
theorem mk_X11_exact : MK mX11_exact 1 := ⟨tw_b6 73 (by decide +kernel) (by decide +kernel), tw_b1 12 (by decide +kernel) (by decide +kernel), by decide, by decide, by decide +kernel, by decide +kernel⟩
theorem mi_X11_exact : Cond.instanceMethod yX11_exact ∈ TW := tw_b6 72 (by decide +kernel) (by decide +kernel)
theorem me_X11_exact : Cond.selects RX11 yX11_exact yX11_exact ∈ TW := tw_in 96 (by decide +kernel) (by decide +kernel)
abbrev mX11_executed : MI := (yX11_executed, cX11_executed, 1, some .int, { frames := 5, cells := 0, slots := 0, locals := 111 })
theorem mk_X11_executed : MK mX11_executed 0 := ⟨tw_b6 89 (by decide +kernel) (by decide +kernel), tw_b1 12 (by decide +kernel) (by decide +kernel), by decide, by decide, by decide +kernel, by decide +kernel⟩
theorem mi_X11_executed : Cond.instanceMethod yX11_executed ∈ TW := tw_b6 87 (by decide +kernel) (by decide +kernel)
theorem me_X11_executed : Cond.selects RX11 yX11_executed yX11_executed ∈ TW := tw_b6 88 (by decide +kernel) (by decide +kernel)
abbrev mX11_failingInput : MI := (yX11_failingInput, cX11_failingInput, 7, some .int, { frames := 5, cells := 0, slots := 0, locals := 111 })
theorem mk_X11_failingInput : MK mX11_failingInput 1 := ⟨tw_b6 109 (by decide +kernel) (by decide +kernel), tw_b1 12 (by decide +kernel) (by decide +kernel), by decide, by decide, by decide +kernel, by decide +kernel⟩
theorem mi_X11_failingInput : Cond.instanceMethod yX11_failingInput ∈ TW := tw_b6 107 (by decide +kernel) (by decide +kernel)
theorem me_X11_failingInput : Cond.selects RX11 yX11_failingInput yX11_failingInput ∈ TW := tw_b6 108 (by decide +kernel) (by decide +kernel)
abbrev mX11_failure : MI := (yX11_failure, cX11_failure, 3, some .int, { frames := 6, cells := 0, slots := 0, locals := 135 })
theorem mk_X11_failure : MK mX11_failure 1 := ⟨tw_b6 50 (by decide +kernel) (by decide +kernel), tw_b1 12 (by decide +kernel) (by decide +kernel), by decide, by decide, by decide +kernel, by decide +kernel⟩
theorem mi_X11_failure : Cond.instanceMethod yX11_failure ∈ TW := tw_b6 48 (by decide +kernel) (by decide +kernel)
theorem me_X11_failure : Cond.selects RX11 yX11_failure yX11_failure ∈ TW := tw_b6 49 (by decide +kernel) (by decide +kernel)
abbrev mX11_finalOf : MI := (yX11_finalOf, cX11_finalOf, 3, some .int, { frames := 0, cells := 0, slots := 0, locals := 0 })
theorem mk_X11_finalOf : MK mX11_finalOf 2 := ⟨tw_b6 42 (by decide +kernel) (by decide +kernel), tw_b1 12 (by decide +kernel) (by decide +kernel), by decide, by decide, by decide +kernel, by decide +kernel⟩
theorem mi_X11_finalOf : Cond.instanceMethod yX11_finalOf ∈ TW := tw_b6 41 (by decide +kernel) (by decide +kernel)
theorem me_X11_finalOf : Cond.selects RX11 yX11_finalOf yX11_finalOf ∈ TW := tw_in 91 (by decide +kernel) (by decide +kernel)
abbrev mX11_finalRange : MI := (yX11_finalRange, cX11_finalRange, 3, some .int, { frames := 5, cells := 0, slots := 0, locals := 113 })
theorem mk_X11_finalRange : MK mX11_finalRange 2 := ⟨tw_b6 38 (by decide +kernel) (by decide +kernel), tw_b1 12 (by decide +kernel) (by decide +kernel), by decide, by decide, by decide +kernel, by decide +kernel⟩
theorem mi_X11_finalRange : Cond.instanceMethod yX11_finalRange ∈ TW := tw_b6 36 (by decide +kernel) (by decide +kernel)
theorem me_X11_finalRange : Cond.selects RX11 yX11_finalRange yX11_finalRange ∈ TW := tw_b6 37 (by decide +kernel) (by decide +kernel)
abbrev mX11_goes : MI := (yX11_goes, cX11_goes, 3, some .boolean, { frames := 0, cells := 0, slots := 0, locals := 0 })
theorem mk_X11_goes : MK mX11_goes 2 := ⟨tw_b5 95 (by decide +kernel) (by decide +kernel), tw_b1 12 (by decide +kernel) (by decide +kernel), by decide, by decide, by decide +kernel, by decide +kernel⟩
theorem mi_X11_goes : Cond.instanceMethod yX11_goes ∈ TW := tw_b5 94 (by decide +kernel) (by decide +kernel)
theorem me_X11_goes : Cond.selects RX11 yX11_goes yX11_goes ∈ TW := tw_in 64 (by decide +kernel) (by decide +kernel)
abbrev mX11_goesOn : MI := (yX11_goesOn, cX11_goesOn, 1, none, { frames := 2, cells := 0, slots := 0, locals := 43 })
theorem mk_X11_goesOn : MK mX11_goesOn 0 := ⟨tw_b6 2 (by decide +kernel) (by decide +kernel), tw_b1 12 (by decide +kernel) (by decide +kernel), by decide, by decide, by decide +kernel, by decide +kernel⟩
theorem mi_X11_goesOn : Cond.instanceMethod yX11_goesOn ∈ TW := tw_b6 1 (by decide +kernel) (by decide +kernel)
theorem me_X11_goesOn : Cond.selects RX11 yX11_goesOn yX11_goesOn ∈ TW := tw_in 86 (by decide +kernel) (by decide +kernel)
abbrev mX11_greater : MI := (yX11_greater, cX11_greater, 4, some .long, { frames := 0, cells := 0, slots := 0, locals := 0 })
theorem mk_X11_greater : MK mX11_greater 2 := ⟨tw_b5 236 (by decide +kernel) (by decide +kernel), tw_b1 12 (by decide +kernel) (by decide +kernel), by decide, by decide, by decide +kernel, by decide +kernel⟩
theorem ms_X11_greater : Cond.static yX11_greater ∈ TW := tw_b5 235 (by decide +kernel) (by decide +kernel)
abbrev mX11_has : MI := (yX11_has, cX11_has, 2, some .boolean, { frames := 1, cells := 0, slots := 0, locals := 25 })
theorem mk_X11_has : MK mX11_has 2 := ⟨tw_b6 9 (by decide +kernel) (by decide +kernel), tw_b1 12 (by decide +kernel) (by decide +kernel), by decide, by decide, by decide +kernel, by decide +kernel⟩
theorem ms_X11_has : Cond.static yX11_has ∈ TW := tw_b6 8 (by decide +kernel) (by decide +kernel)
abbrev mX11_here : MI := (yX11_here, cX11_here, 1, some .int, { frames := 0, cells := 0, slots := 0, locals := 0 })
theorem mk_X11_here : MK mX11_here 0 := ⟨tw_b5 115 (by decide +kernel) (by decide +kernel), tw_b1 12 (by decide +kernel) (by decide +kernel), by decide, by decide, by decide +kernel, by decide +kernel⟩
theorem mi_X11_here : Cond.instanceMethod yX11_here ∈ TW := tw_b5 114 (by decide +kernel) (by decide +kernel)
theorem me_X11_here : Cond.selects RX11 yX11_here yX11_here ∈ TW := tw_in 67 (by decide +kernel) (by decide +kernel)
abbrev mX11_highOf : MI := (yX11_highOf, cX11_highOf, 2, some .long, { frames := 0, cells := 0, slots := 0, locals := 0 })
theorem mk_X11_highOf : MK mX11_highOf 1 := ⟨tw_b5 230 (by decide +kernel) (by decide +kernel), tw_b1 12 (by decide +kernel) (by decide +kernel), by decide, by decide, by decide +kernel, by decide +kernel⟩
theorem mi_X11_highOf : Cond.instanceMethod yX11_highOf ∈ TW := tw_b5 229 (by decide +kernel) (by decide +kernel)
theorem me_X11_highOf : Cond.selects RX11 yX11_highOf yX11_highOf ∈ TW := tw_in 85 (by decide +kernel) (by decide +kernel)
abbrev mX11_in : MI := (yX11_in, cX11_in, 6, some .boolean, { frames := 0, cells := 0, slots := 0, locals := 0 })
theorem mk_X11_in : MK mX11_in 3 := ⟨tw_b5 91 (by decide +kernel) (by decide +kernel), tw_b1 12 (by decide +kernel) (by decide +kernel), by decide, by decide, by decide +kernel, by decide +kernel⟩
theorem ms_X11_in : Cond.static yX11_in ∈ TW := tw_b5 90 (by decide +kernel) (by decide +kernel)
abbrev mX11_init : MI := (yX11_init, cX11_init, 2, none, { frames := 1, cells := 21, slots := 1461, locals := 40 })
theorem mk_X11_init : MK mX11_init 0 := ⟨tw_b4 218 (by decide +kernel) (by decide +kernel), tw_b1 12 (by decide +kernel) (by decide +kernel), by decide, by decide, by decide +kernel, by decide +kernel⟩
theorem mi_X11_init : Cond.instanceMethod yX11_init ∈ TW := tw_b4 217 (by decide +kernel) (by decide +kernel)
abbrev mX11_input : MI := (yX11_input, cX11_input, 3, some .int, { frames := 2, cells := 0, slots := 0, locals := 45 })
theorem mk_X11_input : MK mX11_input 2 := ⟨tw_b5 160 (by decide +kernel) (by decide +kernel), tw_b1 12 (by decide +kernel) (by decide +kernel), by decide, by decide, by decide +kernel, by decide +kernel⟩
theorem mi_X11_input : Cond.instanceMethod yX11_input ∈ TW := tw_b5 158 (by decide +kernel) (by decide +kernel)
theorem me_X11_input : Cond.selects RX11 yX11_input yX11_input ∈ TW := tw_b5 159 (by decide +kernel) (by decide +kernel)
abbrev mX11_instruction : MI := (yX11_instruction, cX11_instruction, 3, some .int, { frames := 3, cells := 0, slots := 0, locals := 67 })
theorem mk_X11_instruction : MK mX11_instruction 2 := ⟨tw_b5 189 (by decide +kernel) (by decide +kernel), tw_b1 12 (by decide +kernel) (by decide +kernel), by decide, by decide, by decide +kernel, by decide +kernel⟩
theorem mi_X11_instruction : Cond.instanceMethod yX11_instruction ∈ TW := tw_b5 187 (by decide +kernel) (by decide +kernel)
theorem me_X11_instruction : Cond.selects RX11 yX11_instruction yX11_instruction ∈ TW := tw_b5 188 (by decide +kernel) (by decide +kernel)
abbrev mX11_instructions : MI := (yX11_instructions, cX11_instructions, 1, some .int, { frames := 0, cells := 0, slots := 0, locals := 0 })
theorem mk_X11_instructions : MK mX11_instructions 0 := ⟨tw_b5 185 (by decide +kernel) (by decide +kernel), tw_b1 12 (by decide +kernel) (by decide +kernel), by decide, by decide, by decide +kernel, by decide +kernel⟩
theorem mi_X11_instructions : Cond.instanceMethod yX11_instructions ∈ TW := tw_b5 183 (by decide +kernel) (by decide +kernel)
theorem me_X11_instructions : Cond.selects RX11 yX11_instructions yX11_instructions ∈ TW := tw_b5 184 (by decide +kernel) (by decide +kernel)
abbrev mX11_isChecked : MI := (yX11_isChecked, cX11_isChecked, 3, some .boolean, { frames := 2, cells := 0, slots := 0, locals := 43 })
theorem mk_X11_isChecked : MK mX11_isChecked 2 := ⟨tw_b6 77 (by decide +kernel) (by decide +kernel), tw_b1 12 (by decide +kernel) (by decide +kernel), by decide, by decide, by decide +kernel, by decide +kernel⟩
theorem mi_X11_isChecked : Cond.instanceMethod yX11_isChecked ∈ TW := tw_b6 76 (by decide +kernel) (by decide +kernel)
theorem me_X11_isChecked : Cond.selects RX11 yX11_isChecked yX11_isChecked ∈ TW := tw_in 97 (by decide +kernel) (by decide +kernel)
abbrev mX11_isFigure : MI := (yX11_isFigure, cX11_isFigure, 1, some .boolean, { frames := 1, cells := 0, slots := 0, locals := 25 })
theorem mk_X11_isFigure : MK mX11_isFigure 0 := ⟨tw_b5 129 (by decide +kernel) (by decide +kernel), tw_b1 12 (by decide +kernel) (by decide +kernel), by decide, by decide, by decide +kernel, by decide +kernel⟩
theorem mi_X11_isFigure : Cond.instanceMethod yX11_isFigure ∈ TW := tw_b5 128 (by decide +kernel) (by decide +kernel)
theorem me_X11_isFigure : Cond.selects RX11 yX11_isFigure yX11_isFigure ∈ TW := tw_in 70 (by decide +kernel) (by decide +kernel)
abbrev mX11_isHoisted : MI := (yX11_isHoisted, cX11_isHoisted, 5, some .boolean, { frames := 3, cells := 0, slots := 0, locals := 64 })
theorem mk_X11_isHoisted : MK mX11_isHoisted 1 := ⟨tw_b6 13 (by decide +kernel) (by decide +kernel), tw_b1 12 (by decide +kernel) (by decide +kernel), by decide, by decide, by decide +kernel, by decide +kernel⟩
theorem mi_X11_isHoisted : Cond.instanceMethod yX11_isHoisted ∈ TW := tw_b6 12 (by decide +kernel) (by decide +kernel)
theorem me_X11_isHoisted : Cond.selects RX11 yX11_isHoisted yX11_isHoisted ∈ TW := tw_in 88 (by decide +kernel) (by decide +kernel)
abbrev mX11_isInt : MI := (yX11_isInt, cX11_isInt, 2, some .boolean, { frames := 1, cells := 0, slots := 0, locals := 25 })
theorem mk_X11_isInt : MK mX11_isInt 1 := ⟨tw_b6 69 (by decide +kernel) (by decide +kernel), tw_b1 12 (by decide +kernel) (by decide +kernel), by decide, by decide, by decide +kernel, by decide +kernel⟩
theorem ms_X11_isInt : Cond.static yX11_isInt ∈ TW := tw_b6 68 (by decide +kernel) (by decide +kernel)
abbrev mX11_isLetter : MI := (yX11_isLetter, cX11_isLetter, 1, some .boolean, { frames := 1, cells := 0, slots := 0, locals := 25 })
theorem mk_X11_isLetter : MK mX11_isLetter 0 := ⟨tw_b5 111 (by decide +kernel) (by decide +kernel), tw_b1 12 (by decide +kernel) (by decide +kernel), by decide, by decide, by decide +kernel, by decide +kernel⟩
theorem mi_X11_isLetter : Cond.instanceMethod yX11_isLetter ∈ TW := tw_b5 110 (by decide +kernel) (by decide +kernel)
theorem me_X11_isLetter : Cond.selects RX11 yX11_isLetter yX11_isLetter ∈ TW := tw_in 66 (by decide +kernel) (by decide +kernel)
abbrev mX11_isLoop : MI := (yX11_isLoop, cX11_isLoop, 2, some .boolean, { frames := 2, cells := 0, slots := 0, locals := 43 })
theorem mk_X11_isLoop : MK mX11_isLoop 1 := ⟨tw_b5 173 (by decide +kernel) (by decide +kernel), tw_b1 12 (by decide +kernel) (by decide +kernel), by decide, by decide, by decide +kernel, by decide +kernel⟩
theorem mi_X11_isLoop : Cond.instanceMethod yX11_isLoop ∈ TW := tw_b5 172 (by decide +kernel) (by decide +kernel)
theorem me_X11_isLoop : Cond.selects RX11 yX11_isLoop yX11_isLoop ∈ TW := tw_in 75 (by decide +kernel) (by decide +kernel)
abbrev mX11_isName : MI := (yX11_isName, cX11_isName, 1, some .boolean, { frames := 1, cells := 0, slots := 0, locals := 25 })
theorem mk_X11_isName : MK mX11_isName 1 := ⟨tw_b5 151 (by decide +kernel) (by decide +kernel), tw_b1 12 (by decide +kernel) (by decide +kernel), by decide, by decide, by decide +kernel, by decide +kernel⟩
theorem ms_X11_isName : Cond.static yX11_isName ∈ TW := tw_b5 150 (by decide +kernel) (by decide +kernel)
abbrev mX11_isOne : MI := (yX11_isOne, cX11_isOne, 2, some .boolean, { frames := 1, cells := 0, slots := 0, locals := 25 })
theorem mk_X11_isOne : MK mX11_isOne 1 := ⟨tw_b5 169 (by decide +kernel) (by decide +kernel), tw_b1 12 (by decide +kernel) (by decide +kernel), by decide, by decide, by decide +kernel, by decide +kernel⟩
theorem mi_X11_isOne : Cond.instanceMethod yX11_isOne ∈ TW := tw_b5 168 (by decide +kernel) (by decide +kernel)
theorem me_X11_isOne : Cond.selects RX11 yX11_isOne yX11_isOne ∈ TW := tw_in 74 (by decide +kernel) (by decide +kernel)
abbrev mX11_kind : MI := (yX11_kind, cX11_kind, 2, some .int, { frames := 1, cells := 0, slots := 0, locals := 22 })
theorem mk_X11_kind : MK mX11_kind 1 := ⟨tw_b5 177 (by decide +kernel) (by decide +kernel), tw_b1 12 (by decide +kernel) (by decide +kernel), by decide, by decide, by decide +kernel, by decide +kernel⟩
theorem mi_X11_kind : Cond.instanceMethod yX11_kind ∈ TW := tw_b5 176 (by decide +kernel) (by decide +kernel)
theorem me_X11_kind : Cond.selects RX11 yX11_kind yX11_kind ∈ TW := tw_in 76 (by decide +kernel) (by decide +kernel)
abbrev mX11_laysLoops : MI := (yX11_laysLoops, cX11_laysLoops, 5, none, { frames := 2, cells := 0, slots := 0, locals := 43 })
theorem mk_X11_laysLoops : MK mX11_laysLoops 0 := ⟨tw_b5 194 (by decide +kernel) (by decide +kernel), tw_b1 12 (by decide +kernel) (by decide +kernel), by decide, by decide, by decide +kernel, by decide +kernel⟩
theorem mi_X11_laysLoops : Cond.instanceMethod yX11_laysLoops ∈ TW := tw_b5 193 (by decide +kernel) (by decide +kernel)
theorem me_X11_laysLoops : Cond.selects RX11 yX11_laysLoops yX11_laysLoops ∈ TW := tw_in 78 (by decide +kernel) (by decide +kernel)
abbrev mX11_lesser : MI := (yX11_lesser, cX11_lesser, 4, some .long, { frames := 0, cells := 0, slots := 0, locals := 0 })
theorem mk_X11_lesser : MK mX11_lesser 2 := ⟨tw_b5 233 (by decide +kernel) (by decide +kernel), tw_b1 12 (by decide +kernel) (by decide +kernel), by decide, by decide, by decide +kernel, by decide +kernel⟩
theorem ms_X11_lesser : Cond.static yX11_lesser ∈ TW := tw_b5 232 (by decide +kernel) (by decide +kernel)
abbrev mX11_lowOf : MI := (yX11_lowOf, cX11_lowOf, 2, some .long, { frames := 0, cells := 0, slots := 0, locals := 0 })
theorem mk_X11_lowOf : MK mX11_lowOf 1 := ⟨tw_b5 226 (by decide +kernel) (by decide +kernel), tw_b1 12 (by decide +kernel) (by decide +kernel), by decide, by decide, by decide +kernel, by decide +kernel⟩
theorem mi_X11_lowOf : Cond.instanceMethod yX11_lowOf ∈ TW := tw_b5 225 (by decide +kernel) (by decide +kernel)
theorem me_X11_lowOf : Cond.selects RX11 yX11_lowOf yX11_lowOf ∈ TW := tw_in 84 (by decide +kernel) (by decide +kernel)
abbrev mX11_of : MI := (yX11_of, cX11_of, 3, some .int, { frames := 0, cells := 0, slots := 0, locals := 0 })
theorem mk_X11_of : MK mX11_of 2 := ⟨tw_b5 181 (by decide +kernel) (by decide +kernel), tw_b1 12 (by decide +kernel) (by decide +kernel), by decide, by decide, by decide +kernel, by decide +kernel⟩
theorem mi_X11_of : Cond.instanceMethod yX11_of ∈ TW := tw_b5 180 (by decide +kernel) (by decide +kernel)
theorem me_X11_of : Cond.selects RX11 yX11_of yX11_of ∈ TW := tw_in 77 (by decide +kernel) (by decide +kernel)
abbrev mX11_openOnes : MI := (yX11_openOnes, cX11_openOnes, 7, some .int, { frames := 5, cells := 0, slots := 0, locals := 113 })
theorem mk_X11_openOnes : MK mX11_openOnes 3 := ⟨tw_b6 101 (by decide +kernel) (by decide +kernel), tw_b1 12 (by decide +kernel) (by decide +kernel), by decide, by decide, by decide +kernel, by decide +kernel⟩
theorem mi_X11_openOnes : Cond.instanceMethod yX11_openOnes ∈ TW := tw_b6 100 (by decide +kernel) (by decide +kernel)
theorem me_X11_openOnes : Cond.selects RX11 yX11_openOnes yX11_openOnes ∈ TW := tw_in 98 (by decide +kernel) (by decide +kernel)
abbrev mX11_openWith : MI := (yX11_openWith, cX11_openWith, 4, some .int, { frames := 6, cells := 0, slots := 0, locals := 139 })
theorem mk_X11_openWith : MK mX11_openWith 3 := ⟨tw_b6 97 (by decide +kernel) (by decide +kernel), tw_b1 12 (by decide +kernel) (by decide +kernel), by decide, by decide, by decide +kernel, by decide +kernel⟩
theorem mi_X11_openWith : Cond.instanceMethod yX11_openWith ∈ TW := tw_b6 95 (by decide +kernel) (by decide +kernel)
theorem me_X11_openWith : Cond.selects RX11 yX11_openWith yX11_openWith ∈ TW := tw_b6 96 (by decide +kernel) (by decide +kernel)
abbrev mX11_operand : MI := (yX11_operand, cX11_operand, 3, some .int, { frames := 2, cells := 0, slots := 0, locals := 46 })
theorem mk_X11_operand : MK mX11_operand 2 := ⟨tw_b5 202 (by decide +kernel) (by decide +kernel), tw_b1 12 (by decide +kernel) (by decide +kernel), by decide, by decide, by decide +kernel, by decide +kernel⟩
theorem mi_X11_operand : Cond.instanceMethod yX11_operand ∈ TW := tw_b5 200 (by decide +kernel) (by decide +kernel)
theorem me_X11_operand : Cond.selects RX11 yX11_operand yX11_operand ∈ TW := tw_b5 201 (by decide +kernel) (by decide +kernel)
abbrev mX11_operandRead : MI := (yX11_operandRead, cX11_operandRead, 4, some .int, { frames := 2, cells := 0, slots := 0, locals := 45 })
theorem mk_X11_operandRead : MK mX11_operandRead 0 := ⟨tw_b5 125 (by decide +kernel) (by decide +kernel), tw_b1 12 (by decide +kernel) (by decide +kernel), by decide, by decide, by decide +kernel, by decide +kernel⟩
theorem mi_X11_operandRead : Cond.instanceMethod yX11_operandRead ∈ TW := tw_b5 124 (by decide +kernel) (by decide +kernel)
theorem me_X11_operandRead : Cond.selects RX11 yX11_operandRead yX11_operandRead ∈ TW := tw_in 69 (by decide +kernel) (by decide +kernel)
abbrev mX11_outcome : MI := (yX11_outcome, cX11_outcome, 3, some .int, { frames := 5, cells := 0, slots := 0, locals := 113 })
theorem mk_X11_outcome : MK mX11_outcome 1 := ⟨tw_b6 54 (by decide +kernel) (by decide +kernel), tw_b1 12 (by decide +kernel) (by decide +kernel), by decide, by decide, by decide +kernel, by decide +kernel⟩
theorem mi_X11_outcome : Cond.instanceMethod yX11_outcome ∈ TW := tw_b6 53 (by decide +kernel) (by decide +kernel)
theorem me_X11_outcome : Cond.selects RX11 yX11_outcome yX11_outcome ∈ TW := tw_in 92 (by decide +kernel) (by decide +kernel)
abbrev mX11_parse : MI := (yX11_parse, cX11_parse, 2, some .int, { frames := 5, cells := 0, slots := 0, locals := 113 })
theorem mk_X11_parse : MK mX11_parse 0 := ⟨tw_b5 103 (by decide +kernel) (by decide +kernel), tw_b1 12 (by decide +kernel) (by decide +kernel), by decide, by decide, by decide +kernel, by decide +kernel⟩
theorem mi_X11_parse : Cond.instanceMethod yX11_parse ∈ TW := tw_b5 101 (by decide +kernel) (by decide +kernel)
theorem me_X11_parse : Cond.selects RX11 yX11_parse yX11_parse ∈ TW := tw_b5 102 (by decide +kernel) (by decide +kernel)
abbrev mX11_range : MI := (yX11_range, cX11_range, 3, some .long, { frames := 5, cells := 0, slots := 0, locals := 113 })
theorem mk_X11_range : MK mX11_range 2 := ⟨tw_b6 34 (by decide +kernel) (by decide +kernel), tw_b1 12 (by decide +kernel) (by decide +kernel), by decide, by decide, by decide +kernel, by decide +kernel⟩
theorem mi_X11_range : Cond.instanceMethod yX11_range ∈ TW := tw_b6 32 (by decide +kernel) (by decide +kernel)
theorem me_X11_range : Cond.selects RX11 yX11_range yX11_range ∈ TW := tw_b6 33 (by decide +kernel) (by decide +kernel)
abbrev mX11_ranges : MI := (yX11_ranges, cX11_ranges, 14, some .boolean, { frames := 2, cells := 0, slots := 0, locals := 43 })
theorem mk_X11_ranges : MK mX11_ranges 1 := ⟨tw_b5 222 (by decide +kernel) (by decide +kernel), tw_b1 12 (by decide +kernel) (by decide +kernel), by decide, by decide, by decide +kernel, by decide +kernel⟩
theorem mi_X11_ranges : Cond.instanceMethod yX11_ranges ∈ TW := tw_b5 221 (by decide +kernel) (by decide +kernel)
theorem me_X11_ranges : Cond.selects RX11 yX11_ranges yX11_ranges ∈ TW := tw_in 83 (by decide +kernel) (by decide +kernel)
abbrev mX11_readsAssignment : MI := (yX11_readsAssignment, cX11_readsAssignment, 6, some .boolean, { frames := 3, cells := 0, slots := 0, locals := 68 })
theorem mk_X11_readsAssignment : MK mX11_readsAssignment 0 := ⟨tw_b5 121 (by decide +kernel) (by decide +kernel), tw_b1 12 (by decide +kernel) (by decide +kernel), by decide, by decide, by decide +kernel, by decide +kernel⟩
theorem mi_X11_readsAssignment : Cond.instanceMethod yX11_readsAssignment ∈ TW := tw_b5 120 (by decide +kernel) (by decide +kernel)
theorem me_X11_readsAssignment : Cond.selects RX11 yX11_readsAssignment yX11_readsAssignment ∈ TW := tw_in 68 (by decide +kernel) (by decide +kernel)
abbrev mX11_readsCount : MI := (yX11_readsCount, cX11_readsCount, 3, some .boolean, { frames := 2, cells := 0, slots := 0, locals := 45 })
theorem mk_X11_readsCount : MK mX11_readsCount 0 := ⟨tw_b5 139 (by decide +kernel) (by decide +kernel), tw_b1 12 (by decide +kernel) (by decide +kernel), by decide, by decide, by decide +kernel, by decide +kernel⟩
theorem mi_X11_readsCount : Cond.instanceMethod yX11_readsCount ∈ TW := tw_b5 138 (by decide +kernel) (by decide +kernel)
theorem me_X11_readsCount : Cond.selects RX11 yX11_readsCount yX11_readsCount ∈ TW := tw_in 72 (by decide +kernel) (by decide +kernel)
abbrev mX11_readsNext : MI := (yX11_readsNext, cX11_readsNext, 1, some .boolean, { frames := 4, cells := 0, slots := 0, locals := 93 })
theorem mk_X11_readsNext : MK mX11_readsNext 0 := ⟨tw_b5 107 (by decide +kernel) (by decide +kernel), tw_b1 12 (by decide +kernel) (by decide +kernel), by decide, by decide, by decide +kernel, by decide +kernel⟩
theorem mi_X11_readsNext : Cond.instanceMethod yX11_readsNext ∈ TW := tw_b5 106 (by decide +kernel) (by decide +kernel)
theorem me_X11_readsNext : Cond.selects RX11 yX11_readsNext yX11_readsNext ∈ TW := tw_in 65 (by decide +kernel) (by decide +kernel)
abbrev mX11_remove : MI := (yX11_remove, cX11_remove, 3, some .int, { frames := 3, cells := 0, slots := 0, locals := 64 })
theorem mk_X11_remove : MK mX11_remove 1 := ⟨tw_b5 165 (by decide +kernel) (by decide +kernel), tw_b1 12 (by decide +kernel) (by decide +kernel), by decide, by decide, by decide +kernel, by decide +kernel⟩
theorem mi_X11_remove : Cond.instanceMethod yX11_remove ∈ TW := tw_b5 163 (by decide +kernel) (by decide +kernel)
theorem me_X11_remove : Cond.selects RX11 yX11_remove yX11_remove ∈ TW := tw_b5 164 (by decide +kernel) (by decide +kernel)
abbrev mX11_result : MI := (yX11_result, cX11_result, 4, some .int, { frames := 6, cells := 0, slots := 0, locals := 135 })
theorem mk_X11_result : MK mX11_result 2 := ⟨tw_b6 81 (by decide +kernel) (by decide +kernel), tw_b1 12 (by decide +kernel) (by decide +kernel), by decide, by decide, by decide +kernel, by decide +kernel⟩
theorem mi_X11_result : Cond.instanceMethod yX11_result ∈ TW := tw_b6 79 (by decide +kernel) (by decide +kernel)
theorem me_X11_result : Cond.selects RX11 yX11_result yX11_result ∈ TW := tw_b6 80 (by decide +kernel) (by decide +kernel)
abbrev mX11_runs : MI := (yX11_runs, cX11_runs, 5, none, { frames := 4, cells := 0, slots := 0, locals := 87 })
theorem mk_X11_runs : MK mX11_runs 1 := ⟨tw_b6 58 (by decide +kernel) (by decide +kernel), tw_b1 12 (by decide +kernel) (by decide +kernel), by decide, by decide, by decide +kernel, by decide +kernel⟩
theorem mi_X11_runs : Cond.instanceMethod yX11_runs ∈ TW := tw_b6 57 (by decide +kernel) (by decide +kernel)
theorem me_X11_runs : Cond.selects RX11 yX11_runs yX11_runs ∈ TW := tw_in 93 (by decide +kernel) (by decide +kernel)
abbrev mX11_safePower : MI := (yX11_safePower, cX11_safePower, 6, some .int, { frames := 6, cells := 0, slots := 0, locals := 139 })
theorem mk_X11_safePower : MK mX11_safePower 1 := ⟨tw_b6 105 (by decide +kernel) (by decide +kernel), tw_b1 12 (by decide +kernel) (by decide +kernel), by decide, by decide, by decide +kernel, by decide +kernel⟩
theorem mi_X11_safePower : Cond.instanceMethod yX11_safePower ∈ TW := tw_b6 103 (by decide +kernel) (by decide +kernel)
theorem me_X11_safePower : Cond.selects RX11 yX11_safePower yX11_safePower ∈ TW := tw_b6 104 (by decide +kernel) (by decide +kernel)
abbrev mX11_save : MI := (yX11_save, cX11_save, 2, none, { frames := 0, cells := 0, slots := 0, locals := 0 })
theorem mk_X11_save : MK mX11_save 0 := ⟨tw_b5 144 (by decide +kernel) (by decide +kernel), tw_b1 12 (by decide +kernel) (by decide +kernel), by decide, by decide, by decide +kernel, by decide +kernel⟩
theorem mi_X11_save : Cond.instanceMethod yX11_save ∈ TW := tw_b5 143 (by decide +kernel) (by decide +kernel)
theorem me_X11_save : Cond.selects RX11 yX11_save yX11_save ∈ TW := tw_in 73 (by decide +kernel) (by decide +kernel)
abbrev mX11_saving : MI := (yX11_saving, cX11_saving, 3, some .double, { frames := 6, cells := 0, slots := 0, locals := 135 })
theorem mk_X11_saving : MK mX11_saving 0 := ⟨tw_b6 93 (by decide +kernel) (by decide +kernel), tw_b1 12 (by decide +kernel) (by decide +kernel), by decide, by decide, by decide +kernel, by decide +kernel⟩
theorem mi_X11_saving : Cond.instanceMethod yX11_saving ∈ TW := tw_b6 91 (by decide +kernel) (by decide +kernel)
theorem me_X11_saving : Cond.selects RX11 yX11_saving yX11_saving ∈ TW := tw_b6 92 (by decide +kernel) (by decide +kernel)
abbrev mX11_setInput : MI := (yX11_setInput, cX11_setInput, 4, some .int, { frames := 2, cells := 0, slots := 0, locals := 45 })
theorem mk_X11_setInput : MK mX11_setInput 2 := ⟨tw_b5 156 (by decide +kernel) (by decide +kernel), tw_b1 12 (by decide +kernel) (by decide +kernel), by decide, by decide, by decide +kernel, by decide +kernel⟩
theorem mi_X11_setInput : Cond.instanceMethod yX11_setInput ∈ TW := tw_b5 154 (by decide +kernel) (by decide +kernel)
theorem me_X11_setInput : Cond.selects RX11 yX11_setInput yX11_setInput ∈ TW := tw_b5 155 (by decide +kernel) (by decide +kernel)
abbrev mX11_setRange : MI := (yX11_setRange, cX11_setRange, 5, some .int, { frames := 2, cells := 0, slots := 0, locals := 45 })
theorem mk_X11_setRange : MK mX11_setRange 3 := ⟨tw_b5 148 (by decide +kernel) (by decide +kernel), tw_b1 12 (by decide +kernel) (by decide +kernel), by decide, by decide, by decide +kernel, by decide +kernel⟩
theorem mi_X11_setRange : Cond.instanceMethod yX11_setRange ∈ TW := tw_b5 146 (by decide +kernel) (by decide +kernel)
theorem me_X11_setRange : Cond.selects RX11 yX11_setRange yX11_setRange ∈ TW := tw_b5 147 (by decide +kernel) (by decide +kernel)
abbrev mX11_startsWalk : MI := (yX11_startsWalk, cX11_startsWalk, 1, none, { frames := 3, cells := 0, slots := 0, locals := 67 })
theorem mk_X11_startsWalk : MK mX11_startsWalk 0 := ⟨tw_b5 214 (by decide +kernel) (by decide +kernel), tw_b1 12 (by decide +kernel) (by decide +kernel), by decide, by decide, by decide +kernel, by decide +kernel⟩
theorem mi_X11_startsWalk : Cond.instanceMethod yX11_startsWalk ∈ TW := tw_b5 213 (by decide +kernel) (by decide +kernel)
theorem me_X11_startsWalk : Cond.selects RX11 yX11_startsWalk yX11_startsWalk ∈ TW := tw_in 81 (by decide +kernel) (by decide +kernel)
abbrev mX11_state : MI := (yX11_state, cX11_state, 2, some .int, { frames := 5, cells := 0, slots := 0, locals := 113 })
theorem mk_X11_state : MK mX11_state 1 := ⟨tw_b5 206 (by decide +kernel) (by decide +kernel), tw_b1 12 (by decide +kernel) (by decide +kernel), by decide, by decide, by decide +kernel, by decide +kernel⟩
theorem mi_X11_state : Cond.instanceMethod yX11_state ∈ TW := tw_b5 204 (by decide +kernel) (by decide +kernel)
theorem me_X11_state : Cond.selects RX11 yX11_state yX11_state ∈ TW := tw_b5 205 (by decide +kernel) (by decide +kernel)
abbrev mX11_states : MI := (yX11_states, cX11_states, 2, some .int, { frames := 5, cells := 0, slots := 0, locals := 113 })
theorem mk_X11_states : MK mX11_states 1 := ⟨tw_b6 21 (by decide +kernel) (by decide +kernel), tw_b1 12 (by decide +kernel) (by decide +kernel), by decide, by decide, by decide +kernel, by decide +kernel⟩
theorem mi_X11_states : Cond.instanceMethod yX11_states ∈ TW := tw_b6 19 (by decide +kernel) (by decide +kernel)
theorem me_X11_states : Cond.selects RX11 yX11_states yX11_states ∈ TW := tw_b6 20 (by decide +kernel) (by decide +kernel)
abbrev mX11_statesFrom : MI := (yX11_statesFrom, cX11_statesFrom, 5, some .int, { frames := 1, cells := 0, slots := 0, locals := 25 })
theorem mk_X11_statesFrom : MK mX11_statesFrom 2 := ⟨tw_b6 26 (by decide +kernel) (by decide +kernel), tw_b1 12 (by decide +kernel) (by decide +kernel), by decide, by decide, by decide +kernel, by decide +kernel⟩
theorem mi_X11_statesFrom : Cond.instanceMethod yX11_statesFrom ∈ TW := tw_b6 25 (by decide +kernel) (by decide +kernel)
theorem me_X11_statesFrom : Cond.selects RX11 yX11_statesFrom yX11_statesFrom ∈ TW := tw_in 90 (by decide +kernel) (by decide +kernel)
abbrev mX11_stepOf : MI := (yX11_stepOf, cX11_stepOf, 5, some .int, { frames := 1, cells := 0, slots := 0, locals := 22 })
theorem mk_X11_stepOf : MK mX11_stepOf 1 := ⟨tw_b6 17 (by decide +kernel) (by decide +kernel), tw_b1 12 (by decide +kernel) (by decide +kernel), by decide, by decide, by decide +kernel, by decide +kernel⟩
theorem mi_X11_stepOf : Cond.instanceMethod yX11_stepOf ∈ TW := tw_b6 16 (by decide +kernel) (by decide +kernel)
theorem me_X11_stepOf : Cond.selects RX11 yX11_stepOf yX11_stepOf ∈ TW := tw_in 89 (by decide +kernel) (by decide +kernel)
abbrev mX11_sumsRun : MI := (yX11_sumsRun, cX11_sumsRun, 8, some .long, { frames := 6, cells := 0, slots := 0, locals := 135 })
theorem mk_X11_sumsRun : MK mX11_sumsRun 2 := ⟨tw_b6 125 (by decide +kernel) (by decide +kernel), tw_b1 12 (by decide +kernel) (by decide +kernel), by decide, by decide, by decide +kernel, by decide +kernel⟩
theorem mi_X11_sumsRun : Cond.instanceMethod yX11_sumsRun ∈ TW := tw_b6 124 (by decide +kernel) (by decide +kernel)
theorem me_X11_sumsRun : Cond.selects RX11 yX11_sumsRun yX11_sumsRun ∈ TW := tw_in 99 (by decide +kernel) (by decide +kernel)
abbrev mX11_takes : MI := (yX11_takes, cX11_takes, 5, none, { frames := 0, cells := 0, slots := 0, locals := 0 })
theorem mk_X11_takes : MK mX11_takes 4 := ⟨tw_b5 135 (by decide +kernel) (by decide +kernel), tw_b1 12 (by decide +kernel) (by decide +kernel), by decide, by decide, by decide +kernel, by decide +kernel⟩
theorem mi_X11_takes : Cond.instanceMethod yX11_takes ∈ TW := tw_b5 134 (by decide +kernel) (by decide +kernel)
theorem me_X11_takes : Cond.selects RX11 yX11_takes yX11_takes ∈ TW := tw_in 71 (by decide +kernel) (by decide +kernel)
abbrev mX11_thrown : MI := (yX11_thrown, cX11_thrown, 1, some .int, { frames := 0, cells := 0, slots := 0, locals := 0 })
theorem mk_X11_thrown : MK mX11_thrown 0 := ⟨tw_b5 83 (by decide +kernel) (by decide +kernel), tw_b1 12 (by decide +kernel) (by decide +kernel), by decide, by decide, by decide +kernel, by decide +kernel⟩
theorem mi_X11_thrown : Cond.instanceMethod yX11_thrown ∈ TW := tw_b5 81 (by decide +kernel) (by decide +kernel)
theorem me_X11_thrown : Cond.selects RX11 yX11_thrown yX11_thrown ∈ TW := tw_b5 82 (by decide +kernel) (by decide +kernel)
abbrev mX11_told : MI := (yX11_told, cX11_told, 3, some .int, { frames := 2, cells := 0, slots := 0, locals := 43 })
theorem mk_X11_told : MK mX11_told 2 := ⟨tw_b5 198 (by decide +kernel) (by decide +kernel), tw_b1 12 (by decide +kernel) (by decide +kernel), by decide, by decide, by decide +kernel, by decide +kernel⟩
theorem mi_X11_told : Cond.instanceMethod yX11_told ∈ TW := tw_b5 197 (by decide +kernel) (by decide +kernel)
theorem me_X11_told : Cond.selects RX11 yX11_told yX11_told ∈ TW := tw_in 79 (by decide +kernel) (by decide +kernel)
abbrev mX11_undo : MI := (yX11_undo, cX11_undo, 2, some .int, { frames := 1, cells := 0, slots := 0, locals := 22 })
theorem mk_X11_undo : MK mX11_undo 0 := ⟨tw_b6 115 (by decide +kernel) (by decide +kernel), tw_b1 12 (by decide +kernel) (by decide +kernel), by decide, by decide, by decide +kernel, by decide +kernel⟩
theorem mi_X11_undo : Cond.instanceMethod yX11_undo ∈ TW := tw_b6 113 (by decide +kernel) (by decide +kernel)
theorem me_X11_undo : Cond.selects RX11 yX11_undo yX11_undo ∈ TW := tw_b6 114 (by decide +kernel) (by decide +kernel)
abbrev mX11_valueOf : MI := (yX11_valueOf, cX11_valueOf, 2, some .long, { frames := 0, cells := 0, slots := 0, locals := 0 })
theorem mk_X11_valueOf : MK mX11_valueOf 1 := ⟨tw_b6 66 (by decide +kernel) (by decide +kernel), tw_b1 12 (by decide +kernel) (by decide +kernel), by decide, by decide, by decide +kernel, by decide +kernel⟩
theorem mi_X11_valueOf : Cond.instanceMethod yX11_valueOf ∈ TW := tw_b6 65 (by decide +kernel) (by decide +kernel)
theorem me_X11_valueOf : Cond.selects RX11 yX11_valueOf yX11_valueOf ∈ TW := tw_in 95 (by decide +kernel) (by decide +kernel)
abbrev mX11_walks : MI := (yX11_walks, cX11_walks, 1, some .boolean, { frames := 0, cells := 0, slots := 0, locals := 0 })
theorem mk_X11_walks : MK mX11_walks 0 := ⟨tw_b5 218 (by decide +kernel) (by decide +kernel), tw_b1 12 (by decide +kernel) (by decide +kernel), by decide, by decide, by decide +kernel, by decide +kernel⟩
theorem mi_X11_walks : Cond.instanceMethod yX11_walks ∈ TW := tw_b5 217 (by decide +kernel) (by decide +kernel)
theorem me_X11_walks : Cond.selects RX11 yX11_walks yX11_walks ∈ TW := tw_in 82 (by decide +kernel) (by decide +kernel)
abbrev mX1_advance : MI := (yX1_advance, cX1_advance, 3, none, { frames := 0, cells := 0, slots := 0, locals := 0 })
theorem mk_X1_advance : MK mX1_advance 1 := ⟨tw_b3 34 (by decide +kernel) (by decide +kernel), tw_b1 9 (by decide +kernel) (by decide +kernel), by decide, by decide, by decide +kernel, by decide +kernel⟩
theorem mi_X1_advance : Cond.instanceMethod yX1_advance ∈ TW := tw_b3 33 (by decide +kernel) (by decide +kernel)
theorem me_X1_advance : Cond.selects RX1 yX1_advance yX1_advance ∈ TW := tw_in 29 (by decide +kernel) (by decide +kernel)
abbrev mX1_init : MI := (yX1_init, cX1_init, 1, none, { frames := 1, cells := 1, slots := 2, locals := 40 })
theorem mk_X1_init : MK mX1_init 0 := ⟨tw_b1 194 (by decide +kernel) (by decide +kernel), tw_b1 9 (by decide +kernel) (by decide +kernel), by decide, by decide, by decide +kernel, by decide +kernel⟩
theorem mi_X1_init : Cond.instanceMethod yX1_init ∈ TW := tw_b1 193 (by decide +kernel) (by decide +kernel)
abbrev mX2_dropOldest : MI := (yX2_dropOldest, cX2_dropOldest, 3, none, { frames := 0, cells := 0, slots := 0, locals := 0 })
theorem mk_X2_dropOldest : MK mX2_dropOldest 0 := ⟨tw_b2 180 (by decide +kernel) (by decide +kernel), tw_b1 7 (by decide +kernel) (by decide +kernel), by decide, by decide, by decide +kernel, by decide +kernel⟩
theorem mi_X2_dropOldest : Cond.instanceMethod yX2_dropOldest ∈ TW := tw_b2 179 (by decide +kernel) (by decide +kernel)
theorem me_X2_dropOldest : Cond.selects RX2 yX2_dropOldest yX2_dropOldest ∈ TW := tw_in 13 (by decide +kernel) (by decide +kernel)
abbrev mX2_init : MI := (yX2_init, cX2_init, 2, none, { frames := 3, cells := 49, slots := 868, locals := 81 })
theorem mk_X2_init : MK mX2_init 0 := ⟨tw_b1 171 (by decide +kernel) (by decide +kernel), tw_b1 7 (by decide +kernel) (by decide +kernel), by decide, by decide, by decide +kernel, by decide +kernel⟩
theorem mi_X2_init : Cond.instanceMethod yX2_init ∈ TW := tw_b1 170 (by decide +kernel) (by decide +kernel)
abbrev mX2_restore : MI := (yX2_restore, cX2_restore, 2, none, { frames := 3, cells := 0, slots := 0, locals := 82 })
theorem mk_X2_restore : MK mX2_restore 1 := ⟨tw_b4 213 (by decide +kernel) (by decide +kernel), tw_b1 7 (by decide +kernel) (by decide +kernel), by decide, by decide, by decide +kernel, by decide +kernel⟩
theorem mi_X2_restore : Cond.instanceMethod yX2_restore ∈ TW := tw_b4 212 (by decide +kernel) (by decide +kernel)
theorem me_X2_restore : Cond.selects RX2 yX2_restore yX2_restore ∈ TW := tw_in 63 (by decide +kernel) (by decide +kernel)
abbrev mX2_save : MI := (yX2_save, cX2_save, 2, none, { frames := 3, cells := 0, slots := 0, locals := 82 })
theorem mk_X2_save : MK mX2_save 1 := ⟨tw_b2 176 (by decide +kernel) (by decide +kernel), tw_b1 7 (by decide +kernel) (by decide +kernel), by decide, by decide, by decide +kernel, by decide +kernel⟩
theorem mi_X2_save : Cond.instanceMethod yX2_save ∈ TW := tw_b2 175 (by decide +kernel) (by decide +kernel)
theorem me_X2_save : Cond.selects RX2 yX2_save yX2_save ∈ TW := tw_in 12 (by decide +kernel) (by decide +kernel)
abbrev mX3_copyFrom : MI := (yX3_copyFrom, cX3_copyFrom, 2, none, { frames := 1, cells := 0, slots := 0, locals := 40 })
theorem mk_X3_copyFrom : MK mX3_copyFrom 1 := ⟨tw_b2 195 (by decide +kernel) (by decide +kernel), tw_b1 6 (by decide +kernel) (by decide +kernel), by decide, by decide, by decide +kernel, by decide +kernel⟩
theorem mi_X3_copyFrom : Cond.instanceMethod yX3_copyFrom ∈ TW := tw_b2 194 (by decide +kernel) (by decide +kernel)
theorem me_X3_copyFrom : Cond.selects RX3 yX3_copyFrom yX3_copyFrom ∈ TW := tw_in 16 (by decide +kernel) (by decide +kernel)
abbrev mX3_init : MI := (yX3_init, cX3_init, 2, none, { frames := 1, cells := 3, slots := 24, locals := 40 })
theorem mk_X3_init : MK mX3_init 0 := ⟨tw_b1 140 (by decide +kernel) (by decide +kernel), tw_b1 6 (by decide +kernel) (by decide +kernel), by decide, by decide, by decide +kernel, by decide +kernel⟩
theorem mi_X3_init : Cond.instanceMethod yX3_init ∈ TW := tw_b1 139 (by decide +kernel) (by decide +kernel)
abbrev mX3_limit : MI := (yX3_limit, cX3_limit, 4, some .int, { frames := 0, cells := 0, slots := 0, locals := 0 })
theorem mk_X3_limit : MK mX3_limit 3 := ⟨tw_b4 64 (by decide +kernel) (by decide +kernel), tw_b1 6 (by decide +kernel) (by decide +kernel), by decide, by decide, by decide +kernel, by decide +kernel⟩
theorem mi_X3_limit : Cond.instanceMethod yX3_limit ∈ TW := tw_b4 63 (by decide +kernel) (by decide +kernel)
theorem me_X3_limit : Cond.selects RX3 yX3_limit yX3_limit ∈ TW := tw_in 55 (by decide +kernel) (by decide +kernel)
abbrev mX3_narrowTo : MI := (yX3_narrowTo, cX3_narrowTo, 2, none, { frames := 1, cells := 0, slots := 0, locals := 40 })
theorem mk_X3_narrowTo : MK mX3_narrowTo 1 := ⟨tw_b4 190 (by decide +kernel) (by decide +kernel), tw_b1 6 (by decide +kernel) (by decide +kernel), by decide, by decide, by decide +kernel, by decide +kernel⟩
theorem mi_X3_narrowTo : Cond.instanceMethod yX3_narrowTo ∈ TW := tw_b4 189 (by decide +kernel) (by decide +kernel)
theorem me_X3_narrowTo : Cond.selects RX3 yX3_narrowTo yX3_narrowTo ∈ TW := tw_in 60 (by decide +kernel) (by decide +kernel)
abbrev mX4_init : MI := (yX4_init, cX4_init, 3, none, { frames := 1, cells := 1, slots := 2, locals := 40 })
theorem mk_X4_init : MK mX4_init 2 := ⟨tw_b1 107 (by decide +kernel) (by decide +kernel), tw_b1 4 (by decide +kernel) (by decide +kernel), by decide, by decide, by decide +kernel, by decide +kernel⟩
theorem mi_X4_init : Cond.instanceMethod yX4_init ∈ TW := tw_b1 106 (by decide +kernel) (by decide +kernel)
abbrev mX4_isDigit : MI := (yX4_isDigit, cX4_isDigit, 1, some .boolean, { frames := 0, cells := 0, slots := 0, locals := 0 })
theorem mk_X4_isDigit : MK mX4_isDigit 1 := ⟨tw_b2 145 (by decide +kernel) (by decide +kernel), tw_b1 4 (by decide +kernel) (by decide +kernel), by decide, by decide, by decide +kernel, by decide +kernel⟩
theorem ms_X4_isDigit : Cond.static yX4_isDigit ∈ TW := tw_b2 144 (by decide +kernel) (by decide +kernel)
abbrev mX4_isLetter : MI := (yX4_isLetter, cX4_isLetter, 1, some .boolean, { frames := 0, cells := 0, slots := 0, locals := 0 })
theorem mk_X4_isLetter : MK mX4_isLetter 1 := ⟨tw_b2 130 (by decide +kernel) (by decide +kernel), tw_b1 4 (by decide +kernel) (by decide +kernel), by decide, by decide, by decide +kernel, by decide +kernel⟩
theorem ms_X4_isLetter : Cond.static yX4_isLetter ∈ TW := tw_b2 129 (by decide +kernel) (by decide +kernel)
abbrev mX4_kindOf : MI := (yX4_kindOf, cX4_kindOf, 1, some .int, { frames := 0, cells := 0, slots := 0, locals := 0 })
theorem mk_X4_kindOf : MK mX4_kindOf 1 := ⟨tw_b2 152 (by decide +kernel) (by decide +kernel), tw_b1 4 (by decide +kernel) (by decide +kernel), by decide, by decide, by decide +kernel, by decide +kernel⟩
theorem ms_X4_kindOf : Cond.static yX4_kindOf ∈ TW := tw_b2 151 (by decide +kernel) (by decide +kernel)
abbrev mX4_read : MI := (yX4_read, cX4_read, 2, some .int, { frames := 5, cells := 0, slots := 0, locals := 112 })
theorem mk_X4_read : MK mX4_read 0 := ⟨tw_b2 119 (by decide +kernel) (by decide +kernel), tw_b1 4 (by decide +kernel) (by decide +kernel), by decide, by decide, by decide +kernel, by decide +kernel⟩
theorem mi_X4_read : Cond.instanceMethod yX4_read ∈ TW := tw_b2 118 (by decide +kernel) (by decide +kernel)
theorem me_X4_read : Cond.selects RX4 yX4_read yX4_read ∈ TW := tw_in 0 (by decide +kernel) (by decide +kernel)
abbrev mX4_readAssignment : MI := (yX4_readAssignment, cX4_readAssignment, 5, none, { frames := 3, cells := 0, slots := 0, locals := 67 })
theorem mk_X4_readAssignment : MK mX4_readAssignment 0 := ⟨tw_b2 134 (by decide +kernel) (by decide +kernel), tw_b1 4 (by decide +kernel) (by decide +kernel), by decide, by decide, by decide +kernel, by decide +kernel⟩
theorem mi_X4_readAssignment : Cond.instanceMethod yX4_readAssignment ∈ TW := tw_b2 133 (by decide +kernel) (by decide +kernel)
theorem me_X4_readAssignment : Cond.selects RX4 yX4_readAssignment yX4_readAssignment ∈ TW := tw_in 3 (by decide +kernel) (by decide +kernel)
abbrev mX4_readLoopBegin : MI := (yX4_readLoopBegin, cX4_readLoopBegin, 3, none, { frames := 2, cells := 0, slots := 0, locals := 44 })
theorem mk_X4_readLoopBegin : MK mX4_readLoopBegin 0 := ⟨tw_b2 160 (by decide +kernel) (by decide +kernel), tw_b1 4 (by decide +kernel) (by decide +kernel), by decide, by decide, by decide +kernel, by decide +kernel⟩
theorem mi_X4_readLoopBegin : Cond.instanceMethod yX4_readLoopBegin ∈ TW := tw_b2 159 (by decide +kernel) (by decide +kernel)
theorem me_X4_readLoopBegin : Cond.selects RX4 yX4_readLoopBegin yX4_readLoopBegin ∈ TW := tw_in 8 (by decide +kernel) (by decide +kernel)
abbrev mX4_readLoopEnd : MI := (yX4_readLoopEnd, cX4_readLoopEnd, 2, none, { frames := 1, cells := 0, slots := 0, locals := 25 })
theorem mk_X4_readLoopEnd : MK mX4_readLoopEnd 0 := ⟨tw_b2 164 (by decide +kernel) (by decide +kernel), tw_b1 4 (by decide +kernel) (by decide +kernel), by decide, by decide, by decide +kernel, by decide +kernel⟩
theorem mi_X4_readLoopEnd : Cond.instanceMethod yX4_readLoopEnd ∈ TW := tw_b2 163 (by decide +kernel) (by decide +kernel)
theorem me_X4_readLoopEnd : Cond.selects RX4 yX4_readLoopEnd yX4_readLoopEnd ∈ TW := tw_in 9 (by decide +kernel) (by decide +kernel)
abbrev mX4_readNumber : MI := (yX4_readNumber, cX4_readNumber, 4, some .int, { frames := 1, cells := 0, slots := 0, locals := 21 })
theorem mk_X4_readNumber : MK mX4_readNumber 1 := ⟨tw_b2 149 (by decide +kernel) (by decide +kernel), tw_b1 4 (by decide +kernel) (by decide +kernel), by decide, by decide, by decide +kernel, by decide +kernel⟩
theorem mi_X4_readNumber : Cond.instanceMethod yX4_readNumber ∈ TW := tw_b2 148 (by decide +kernel) (by decide +kernel)
theorem me_X4_readNumber : Cond.selects RX4 yX4_readNumber yX4_readNumber ∈ TW := tw_in 6 (by decide +kernel) (by decide +kernel)
abbrev mX4_readOperand : MI := (yX4_readOperand, cX4_readOperand, 4, some .int, { frames := 2, cells := 0, slots := 0, locals := 44 })
theorem mk_X4_readOperand : MK mX4_readOperand 0 := ⟨tw_b2 142 (by decide +kernel) (by decide +kernel), tw_b1 4 (by decide +kernel) (by decide +kernel), by decide, by decide, by decide +kernel, by decide +kernel⟩
theorem mi_X4_readOperand : Cond.instanceMethod yX4_readOperand ∈ TW := tw_b2 141 (by decide +kernel) (by decide +kernel)
theorem me_X4_readOperand : Cond.selects RX4 yX4_readOperand yX4_readOperand ∈ TW := tw_in 5 (by decide +kernel) (by decide +kernel)
abbrev mX4_readStatement : MI := (yX4_readStatement, cX4_readStatement, 2, none, { frames := 4, cells := 0, slots := 0, locals := 91 })
theorem mk_X4_readStatement : MK mX4_readStatement 0 := ⟨tw_b2 123 (by decide +kernel) (by decide +kernel), tw_b1 4 (by decide +kernel) (by decide +kernel), by decide, by decide, by decide +kernel, by decide +kernel⟩
theorem mi_X4_readStatement : Cond.instanceMethod yX4_readStatement ∈ TW := tw_b2 122 (by decide +kernel) (by decide +kernel)
theorem me_X4_readStatement : Cond.selects RX4 yX4_readStatement yX4_readStatement ∈ TW := tw_in 1 (by decide +kernel) (by decide +kernel)
abbrev mX4_take : MI := (yX4_take, cX4_take, 2, some .boolean, { frames := 1, cells := 0, slots := 0, locals := 21 })
theorem mk_X4_take : MK mX4_take 1 := ⟨tw_b2 138 (by decide +kernel) (by decide +kernel), tw_b1 4 (by decide +kernel) (by decide +kernel), by decide, by decide, by decide +kernel, by decide +kernel⟩
theorem mi_X4_take : Cond.instanceMethod yX4_take ∈ TW := tw_b2 137 (by decide +kernel) (by decide +kernel)
theorem me_X4_take : Cond.selects RX4 yX4_take yX4_take ∈ TW := tw_in 4 (by decide +kernel) (by decide +kernel)
abbrev mX5_canCover : MI := (yX5_canCover, cX5_canCover, 6, some .boolean, { frames := 2, cells := 0, slots := 0, locals := 43 })
theorem mk_X5_canCover : MK mX5_canCover 4 := ⟨tw_b3 45 (by decide +kernel) (by decide +kernel), tw_b1 10 (by decide +kernel) (by decide +kernel), by decide, by decide, by decide +kernel, by decide +kernel⟩
theorem ms_X5_canCover : Cond.static yX5_canCover ∈ TW := tw_b3 44 (by decide +kernel) (by decide +kernel)
abbrev mX5_canMoveOut : MI := (yX5_canMoveOut, cX5_canMoveOut, 7, some .boolean, { frames := 2, cells := 0, slots := 0, locals := 43 })
theorem mk_X5_canMoveOut : MK mX5_canMoveOut 2 := ⟨tw_b3 77 (by decide +kernel) (by decide +kernel), tw_b1 10 (by decide +kernel) (by decide +kernel), by decide, by decide, by decide +kernel, by decide +kernel⟩
theorem mi_X5_canMoveOut : Cond.instanceMethod yX5_canMoveOut ∈ TW := tw_b3 76 (by decide +kernel) (by decide +kernel)
theorem me_X5_canMoveOut : Cond.selects RX5 yX5_canMoveOut yX5_canMoveOut ∈ TW := tw_in 37 (by decide +kernel) (by decide +kernel)
abbrev mX5_findCover : MI := (yX5_findCover, cX5_findCover, 4, some .int, { frames := 3, cells := 0, slots := 0, locals := 68 })
theorem mk_X5_findCover : MK mX5_findCover 3 := ⟨tw_b3 41 (by decide +kernel) (by decide +kernel), tw_b1 10 (by decide +kernel) (by decide +kernel), by decide, by decide, by decide +kernel, by decide +kernel⟩
theorem ms_X5_findCover : Cond.static yX5_findCover ∈ TW := tw_b3 40 (by decide +kernel) (by decide +kernel)
abbrev mX5_findState : MI := (yX5_findState, cX5_findState, 4, some .int, { frames := 3, cells := 0, slots := 0, locals := 69 })
theorem mk_X5_findState : MK mX5_findState 3 := ⟨tw_b3 69 (by decide +kernel) (by decide +kernel), tw_b1 10 (by decide +kernel) (by decide +kernel), by decide, by decide, by decide +kernel, by decide +kernel⟩
theorem mi_X5_findState : Cond.instanceMethod yX5_findState ∈ TW := tw_b3 68 (by decide +kernel) (by decide +kernel)
theorem me_X5_findState : Cond.selects RX5 yX5_findState yX5_findState ∈ TW := tw_in 35 (by decide +kernel) (by decide +kernel)
abbrev mX5_init : MI := (yX5_init, cX5_init, 1, none, { frames := 1, cells := 3, slots := 90, locals := 40 })
theorem mk_X5_init : MK mX5_init 0 := ⟨tw_b2 17 (by decide +kernel) (by decide +kernel), tw_b1 10 (by decide +kernel) (by decide +kernel), by decide, by decide, by decide +kernel, by decide +kernel⟩
theorem mi_X5_init : Cond.instanceMethod yX5_init ∈ TW := tw_b2 16 (by decide +kernel) (by decide +kernel)
abbrev mX5_make : MI := (yX5_make, cX5_make, 4, none, { frames := 4, cells := 0, slots := 0, locals := 92 })
theorem mk_X5_make : MK mX5_make 2 := ⟨tw_b3 38 (by decide +kernel) (by decide +kernel), tw_b1 10 (by decide +kernel) (by decide +kernel), by decide, by decide, by decide +kernel, by decide +kernel⟩
theorem mi_X5_make : Cond.instanceMethod yX5_make ∈ TW := tw_b3 37 (by decide +kernel) (by decide +kernel)
theorem me_X5_make : Cond.selects RX5 yX5_make yX5_make ∈ TW := tw_in 30 (by decide +kernel) (by decide +kernel)
abbrev mX5_standsBetween : MI := (yX5_standsBetween, cX5_standsBetween, 5, some .boolean, { frames := 2, cells := 0, slots := 0, locals := 43 })
theorem mk_X5_standsBetween : MK mX5_standsBetween 4 := ⟨tw_b3 61 (by decide +kernel) (by decide +kernel), tw_b1 10 (by decide +kernel) (by decide +kernel), by decide, by decide, by decide +kernel, by decide +kernel⟩
theorem ms_X5_standsBetween : Cond.static yX5_standsBetween ∈ TW := tw_b3 60 (by decide +kernel) (by decide +kernel)
abbrev mX6_add : MI := (yX6_add, cX6_add, 6, none, { frames := 0, cells := 0, slots := 0, locals := 0 })
theorem mk_X6_add : MK mX6_add 5 := ⟨tw_b2 156 (by decide +kernel) (by decide +kernel), tw_b1 3 (by decide +kernel) (by decide +kernel), by decide, by decide, by decide +kernel, by decide +kernel⟩
theorem mi_X6_add : Cond.instanceMethod yX6_add ∈ TW := tw_b2 155 (by decide +kernel) (by decide +kernel)
theorem me_X6_add : Cond.selects RX6 yX6_add yX6_add ∈ TW := tw_in 7 (by decide +kernel) (by decide +kernel)
abbrev mX6_assigns : MI := (yX6_assigns, cX6_assigns, 3, some .boolean, { frames := 1, cells := 0, slots := 0, locals := 21 })
theorem mk_X6_assigns : MK mX6_assigns 2 := ⟨tw_b3 53 (by decide +kernel) (by decide +kernel), tw_b1 3 (by decide +kernel) (by decide +kernel), by decide, by decide, by decide +kernel, by decide +kernel⟩
theorem mi_X6_assigns : Cond.instanceMethod yX6_assigns ∈ TW := tw_b3 52 (by decide +kernel) (by decide +kernel)
theorem me_X6_assigns : Cond.selects RX6 yX6_assigns yX6_assigns ∈ TW := tw_in 32 (by decide +kernel) (by decide +kernel)
abbrev mX6_besides : MI := (yX6_besides, cX6_besides, 3, some .int, { frames := 0, cells := 0, slots := 0, locals := 0 })
theorem mk_X6_besides : MK mX6_besides 2 := ⟨tw_b3 49 (by decide +kernel) (by decide +kernel), tw_b1 3 (by decide +kernel) (by decide +kernel), by decide, by decide, by decide +kernel, by decide +kernel⟩
theorem mi_X6_besides : Cond.instanceMethod yX6_besides ∈ TW := tw_b3 48 (by decide +kernel) (by decide +kernel)
theorem me_X6_besides : Cond.selects RX6 yX6_besides yX6_besides ∈ TW := tw_in 31 (by decide +kernel) (by decide +kernel)
abbrev mX6_copyFrom : MI := (yX6_copyFrom, cX6_copyFrom, 2, none, { frames := 1, cells := 0, slots := 0, locals := 40 })
theorem mk_X6_copyFrom : MK mX6_copyFrom 1 := ⟨tw_b2 188 (by decide +kernel) (by decide +kernel), tw_b1 3 (by decide +kernel) (by decide +kernel), by decide, by decide, by decide +kernel, by decide +kernel⟩
theorem mi_X6_copyFrom : Cond.instanceMethod yX6_copyFrom ∈ TW := tw_b2 187 (by decide +kernel) (by decide +kernel)
theorem me_X6_copyFrom : Cond.selects RX6 yX6_copyFrom yX6_copyFrom ∈ TW := tw_in 15 (by decide +kernel) (by decide +kernel)
abbrev mX6_hasCheck : MI := (yX6_hasCheck, cX6_hasCheck, 2, some .boolean, { frames := 0, cells := 0, slots := 0, locals := 0 })
theorem mk_X6_hasCheck : MK mX6_hasCheck 1 := ⟨tw_b3 73 (by decide +kernel) (by decide +kernel), tw_b1 3 (by decide +kernel) (by decide +kernel), by decide, by decide, by decide +kernel, by decide +kernel⟩
theorem mi_X6_hasCheck : Cond.instanceMethod yX6_hasCheck ∈ TW := tw_b3 72 (by decide +kernel) (by decide +kernel)
theorem me_X6_hasCheck : Cond.selects RX6 yX6_hasCheck yX6_hasCheck ∈ TW := tw_in 36 (by decide +kernel) (by decide +kernel)
abbrev mX6_init : MI := (yX6_init, cX6_init, 1, none, { frames := 1, cells := 6, slots := 180, locals := 40 })
theorem mk_X6_init : MK mX6_init 0 := ⟨tw_b1 49 (by decide +kernel) (by decide +kernel), tw_b1 3 (by decide +kernel) (by decide +kernel), by decide, by decide, by decide +kernel, by decide +kernel⟩
theorem mi_X6_init : Cond.instanceMethod yX6_init ∈ TW := tw_b1 48 (by decide +kernel) (by decide +kernel)
abbrev mX6_innermostLoopOf : MI := (yX6_innermostLoopOf, cX6_innermostLoopOf, 3, some .int, { frames := 0, cells := 0, slots := 0, locals := 0 })
theorem mk_X6_innermostLoopOf : MK mX6_innermostLoopOf 1 := ⟨tw_b3 81 (by decide +kernel) (by decide +kernel), tw_b1 3 (by decide +kernel) (by decide +kernel), by decide, by decide, by decide +kernel, by decide +kernel⟩
theorem mi_X6_innermostLoopOf : Cond.instanceMethod yX6_innermostLoopOf ∈ TW := tw_b3 80 (by decide +kernel) (by decide +kernel)
theorem me_X6_innermostLoopOf : Cond.selects RX6 yX6_innermostLoopOf yX6_innermostLoopOf ∈ TW := tw_in 38 (by decide +kernel) (by decide +kernel)
abbrev mX6_isLoopEdge : MI := (yX6_isLoopEdge, cX6_isLoopEdge, 2, some .boolean, { frames := 0, cells := 0, slots := 0, locals := 0 })
theorem mk_X6_isLoopEdge : MK mX6_isLoopEdge 1 := ⟨tw_b2 230 (by decide +kernel) (by decide +kernel), tw_b1 3 (by decide +kernel) (by decide +kernel), by decide, by decide, by decide +kernel, by decide +kernel⟩
theorem mi_X6_isLoopEdge : Cond.instanceMethod yX6_isLoopEdge ∈ TW := tw_b2 229 (by decide +kernel) (by decide +kernel)
theorem me_X6_isLoopEdge : Cond.selects RX6 yX6_isLoopEdge yX6_isLoopEdge ∈ TW := tw_in 22 (by decide +kernel) (by decide +kernel)
abbrev mX6_pair : MI := (yX6_pair, cX6_pair, 3, none, { frames := 0, cells := 0, slots := 0, locals := 0 })
theorem mk_X6_pair : MK mX6_pair 2 := ⟨tw_b2 168 (by decide +kernel) (by decide +kernel), tw_b1 3 (by decide +kernel) (by decide +kernel), by decide, by decide, by decide +kernel, by decide +kernel⟩
theorem mi_X6_pair : Cond.instanceMethod yX6_pair ∈ TW := tw_b2 167 (by decide +kernel) (by decide +kernel)
theorem me_X6_pair : Cond.selects RX6 yX6_pair yX6_pair ∈ TW := tw_in 10 (by decide +kernel) (by decide +kernel)
abbrev mX6_takeOut : MI := (yX6_takeOut, cX6_takeOut, 3, none, { frames := 0, cells := 0, slots := 0, locals := 0 })
theorem mk_X6_takeOut : MK mX6_takeOut 1 := ⟨tw_b4 102 (by decide +kernel) (by decide +kernel), tw_b1 3 (by decide +kernel) (by decide +kernel), by decide, by decide, by decide +kernel, by decide +kernel⟩
theorem mi_X6_takeOut : Cond.instanceMethod yX6_takeOut ∈ TW := tw_b4 101 (by decide +kernel) (by decide +kernel)
theorem me_X6_takeOut : Cond.selects RX6 yX6_takeOut yX6_takeOut ∈ TW := tw_in 58 (by decide +kernel) (by decide +kernel)
abbrev mX6_uses : MI := (yX6_uses, cX6_uses, 3, some .boolean, { frames := 0, cells := 0, slots := 0, locals := 0 })
theorem mk_X6_uses : MK mX6_uses 2 := ⟨tw_b3 65 (by decide +kernel) (by decide +kernel), tw_b1 3 (by decide +kernel) (by decide +kernel), by decide, by decide, by decide +kernel, by decide +kernel⟩
theorem mi_X6_uses : Cond.instanceMethod yX6_uses ∈ TW := tw_b3 64 (by decide +kernel) (by decide +kernel)
theorem me_X6_uses : Cond.selects RX6 yX6_uses yX6_uses ∈ TW := tw_in 34 (by decide +kernel) (by decide +kernel)
abbrev mX7_begin : MI := (yX7_begin, cX7_begin, 3, none, { frames := 0, cells := 0, slots := 0, locals := 0 })
theorem mk_X7_begin : MK mX7_begin 1 := ⟨tw_b3 97 (by decide +kernel) (by decide +kernel), tw_b1 11 (by decide +kernel) (by decide +kernel), by decide, by decide, by decide +kernel, by decide +kernel⟩
theorem mi_X7_begin : Cond.instanceMethod yX7_begin ∈ TW := tw_b3 96 (by decide +kernel) (by decide +kernel)
theorem me_X7_begin : Cond.selects RX7 yX7_begin yX7_begin ∈ TW := tw_in 41 (by decide +kernel) (by decide +kernel)
abbrev mX7_checkAhead : MI := (yX7_checkAhead, cX7_checkAhead, 10, none, { frames := 2, cells := 0, slots := 0, locals := 41 })
theorem mk_X7_checkAhead : MK mX7_checkAhead 3 := ⟨tw_b3 127 (by decide +kernel) (by decide +kernel), tw_b1 11 (by decide +kernel) (by decide +kernel), by decide, by decide, by decide +kernel, by decide +kernel⟩
theorem mi_X7_checkAhead : Cond.instanceMethod yX7_checkAhead ∈ TW := tw_b3 126 (by decide +kernel) (by decide +kernel)
theorem me_X7_checkAhead : Cond.selects RX7 yX7_checkAhead yX7_checkAhead ∈ TW := tw_in 47 (by decide +kernel) (by decide +kernel)
abbrev mX7_compute : MI := (yX7_compute, cX7_compute, 6, some .long, { frames := 2, cells := 0, slots := 0, locals := 41 })
theorem mk_X7_compute : MK mX7_compute 3 := ⟨tw_b3 112 (by decide +kernel) (by decide +kernel), tw_b1 11 (by decide +kernel) (by decide +kernel), by decide, by decide, by decide +kernel, by decide +kernel⟩
theorem mi_X7_compute : Cond.instanceMethod yX7_compute ∈ TW := tw_b3 111 (by decide +kernel) (by decide +kernel)
theorem me_X7_compute : Cond.selects RX7 yX7_compute yX7_compute ∈ TW := tw_in 44 (by decide +kernel) (by decide +kernel)
abbrev mX7_execute : MI := (yX7_execute, cX7_execute, 5, none, { frames := 3, cells := 0, slots := 0, locals := 66 })
theorem mk_X7_execute : MK mX7_execute 2 := ⟨tw_b3 108 (by decide +kernel) (by decide +kernel), tw_b1 11 (by decide +kernel) (by decide +kernel), by decide, by decide, by decide +kernel, by decide +kernel⟩
theorem mi_X7_execute : Cond.instanceMethod yX7_execute ∈ TW := tw_b3 107 (by decide +kernel) (by decide +kernel)
theorem me_X7_execute : Cond.selects RX7 yX7_execute yX7_execute ∈ TW := tw_in 43 (by decide +kernel) (by decide +kernel)
abbrev mX7_goOptimized : MI := (yX7_goOptimized, cX7_goOptimized, 5, none, { frames := 4, cells := 0, slots := 0, locals := 90 })
theorem mk_X7_goOptimized : MK mX7_goOptimized 3 := ⟨tw_b3 123 (by decide +kernel) (by decide +kernel), tw_b1 11 (by decide +kernel) (by decide +kernel), by decide, by decide, by decide +kernel, by decide +kernel⟩
theorem mi_X7_goOptimized : Cond.instanceMethod yX7_goOptimized ∈ TW := tw_b3 122 (by decide +kernel) (by decide +kernel)
theorem me_X7_goOptimized : Cond.selects RX7 yX7_goOptimized yX7_goOptimized ∈ TW := tw_in 46 (by decide +kernel) (by decide +kernel)
abbrev mX7_goPlain : MI := (yX7_goPlain, cX7_goPlain, 4, none, { frames := 4, cells := 0, slots := 0, locals := 90 })
theorem mk_X7_goPlain : MK mX7_goPlain 2 := ⟨tw_b3 93 (by decide +kernel) (by decide +kernel), tw_b1 11 (by decide +kernel) (by decide +kernel), by decide, by decide, by decide +kernel, by decide +kernel⟩
theorem mi_X7_goPlain : Cond.instanceMethod yX7_goPlain ∈ TW := tw_b3 92 (by decide +kernel) (by decide +kernel)
theorem me_X7_goPlain : Cond.selects RX7 yX7_goPlain yX7_goPlain ∈ TW := tw_in 40 (by decide +kernel) (by decide +kernel)
abbrev mX7_init : MI := (yX7_init, cX7_init, 1, none, { frames := 2, cells := 4, slots := 42, locals := 60 })
theorem mk_X7_init : MK mX7_init 0 := ⟨tw_b2 36 (by decide +kernel) (by decide +kernel), tw_b1 11 (by decide +kernel) (by decide +kernel), by decide, by decide, by decide +kernel, by decide +kernel⟩
theorem mi_X7_init : Cond.instanceMethod yX7_init ∈ TW := tw_b2 35 (by decide +kernel) (by decide +kernel)
abbrev mX7_isGoingOn : MI := (yX7_isGoingOn, cX7_isGoingOn, 2, some .boolean, { frames := 0, cells := 0, slots := 0, locals := 0 })
theorem mk_X7_isGoingOn : MK mX7_isGoingOn 1 := ⟨tw_b3 103 (by decide +kernel) (by decide +kernel), tw_b1 11 (by decide +kernel) (by decide +kernel), by decide, by decide, by decide +kernel, by decide +kernel⟩
theorem mi_X7_isGoingOn : Cond.instanceMethod yX7_isGoingOn ∈ TW := tw_b3 102 (by decide +kernel) (by decide +kernel)
theorem me_X7_isGoingOn : Cond.selects RX7 yX7_isGoingOn yX7_isGoingOn ∈ TW := tw_in 42 (by decide +kernel) (by decide +kernel)
abbrev mX7_valueOf : MI := (yX7_valueOf, cX7_valueOf, 2, some .long, { frames := 1, cells := 0, slots := 0, locals := 20 })
theorem mk_X7_valueOf : MK mX7_valueOf 1 := ⟨tw_b3 116 (by decide +kernel) (by decide +kernel), tw_b1 11 (by decide +kernel) (by decide +kernel), by decide, by decide, by decide +kernel, by decide +kernel⟩
theorem mi_X7_valueOf : Cond.instanceMethod yX7_valueOf ∈ TW := tw_b3 115 (by decide +kernel) (by decide +kernel)
theorem me_X7_valueOf : Cond.selects RX7 yX7_valueOf yX7_valueOf ∈ TW := tw_in 45 (by decide +kernel) (by decide +kernel)
abbrev mX8_copyFrom : MI := (yX8_copyFrom, cX8_copyFrom, 2, none, { frames := 2, cells := 0, slots := 0, locals := 61 })
theorem mk_X8_copyFrom : MK mX8_copyFrom 1 := ⟨tw_b2 184 (by decide +kernel) (by decide +kernel), tw_b1 5 (by decide +kernel) (by decide +kernel), by decide, by decide, by decide +kernel, by decide +kernel⟩
theorem mi_X8_copyFrom : Cond.instanceMethod yX8_copyFrom ∈ TW := tw_b2 183 (by decide +kernel) (by decide +kernel)
theorem me_X8_copyFrom : Cond.selects RX8 yX8_copyFrom yX8_copyFrom ∈ TW := tw_in 14 (by decide +kernel) (by decide +kernel)
abbrev mX8_init : MI := (yX8_init, cX8_init, 1, none, { frames := 2, cells := 11, slots := 214, locals := 61 })
theorem mk_X8_init : MK mX8_init 0 := ⟨tw_b1 132 (by decide +kernel) (by decide +kernel), tw_b1 5 (by decide +kernel) (by decide +kernel), by decide, by decide, by decide +kernel, by decide +kernel⟩
theorem mi_X8_init : Cond.instanceMethod yX8_init ∈ TW := tw_b1 131 (by decide +kernel) (by decide +kernel)
abbrev mX9_add : MI := (yX9_add, cX9_add, 2, none, { frames := 0, cells := 0, slots := 0, locals := 0 })
theorem mk_X9_add : MK mX9_add 1 := ⟨tw_b4 29 (by decide +kernel) (by decide +kernel), tw_b1 2 (by decide +kernel) (by decide +kernel), by decide, by decide, by decide +kernel, by decide +kernel⟩
theorem mi_X9_add : Cond.instanceMethod yX9_add ∈ TW := tw_b4 28 (by decide +kernel) (by decide +kernel)
theorem me_X9_add : Cond.selects RX9 yX9_add yX9_add ∈ TW := tw_in 54 (by decide +kernel) (by decide +kernel)
abbrev mX9_at : MI := (yX9_at, cX9_at, 2, some .int, { frames := 0, cells := 0, slots := 0, locals := 0 })
theorem mk_X9_at : MK mX9_at 1 := ⟨tw_b2 127 (by decide +kernel) (by decide +kernel), tw_b1 2 (by decide +kernel) (by decide +kernel), by decide, by decide, by decide +kernel, by decide +kernel⟩
theorem mi_X9_at : Cond.instanceMethod yX9_at ∈ TW := tw_b2 126 (by decide +kernel) (by decide +kernel)
theorem me_X9_at : Cond.selects RX9 yX9_at yX9_at ∈ TW := tw_in 2 (by decide +kernel) (by decide +kernel)
abbrev mX9_init : MI := (yX9_init, cX9_init, 1, none, { frames := 1, cells := 1, slots := 200, locals := 40 })
theorem mk_X9_init : MK mX9_init 0 := ⟨tw_b1 33 (by decide +kernel) (by decide +kernel), tw_b1 2 (by decide +kernel) (by decide +kernel), by decide, by decide, by decide +kernel, by decide +kernel⟩
theorem mi_X9_init : Cond.instanceMethod yX9_init ∈ TW := tw_b1 32 (by decide +kernel) (by decide +kernel)
theorem lk_RX10_9 : LK RX10 9 yX9_init := Or.inr ⟨"OverflowGuards", tw_b1 31 (by decide +kernel) (by decide +kernel)⟩
theorem lk_RX10_18 : LK RX10 18 yX6_init := Or.inr ⟨"OverflowGuards", tw_b1 47 (by decide +kernel) (by decide +kernel)⟩
theorem lk_RX10_25 : LK RX10 25 yX4_init := Or.inr ⟨"OverflowGuards", tw_b1 105 (by decide +kernel) (by decide +kernel)⟩
theorem lk_RX10_34 : LK RX10 34 yX8_init := Or.inr ⟨"OverflowGuards", tw_b1 130 (by decide +kernel) (by decide +kernel)⟩
theorem lk_RX10_41 : LK RX10 41 yX2_init := Or.inr ⟨"OverflowGuards", tw_b1 169 (by decide +kernel) (by decide +kernel)⟩
theorem lk_RX10_48 : LK RX10 48 yX0_init := Or.inr ⟨"OverflowGuards", tw_b1 186 (by decide +kernel) (by decide +kernel)⟩
theorem lk_RX10_55 : LK RX10 55 yX5_init := Or.inr ⟨"OverflowGuards", tw_b2 15 (by decide +kernel) (by decide +kernel)⟩
theorem lk_RX10_62 : LK RX10 62 yX7_init := Or.inr ⟨"OverflowGuards", tw_b2 34 (by decide +kernel) (by decide +kernel)⟩
theorem lk_RX10_79 : LK RX10 79 yX3_init := Or.inr ⟨"OverflowGuards", tw_b2 64 (by decide +kernel) (by decide +kernel)⟩
theorem lk_RX10_106 : LK RX10 106 yX9_add := Or.inr ⟨"OverflowGuards", tw_b4 26 (by decide +kernel) (by decide +kernel)⟩
theorem lk_RX10_110 : LK RX10 110 yX4_read := Or.inr ⟨"OverflowGuards", tw_b2 116 (by decide +kernel) (by decide +kernel)⟩
theorem lk_RX10_114 : LK RX10 114 yX10_saveForUndo := Or.inl (tw_b2 169 (by decide +kernel) (by decide +kernel))
theorem lk_RX10_120 : LK RX10 120 yX6_copyFrom := Or.inr ⟨"OverflowGuards", tw_b2 201 (by decide +kernel) (by decide +kernel)⟩
theorem lk_RX10_127 : LK RX10 127 yX10_requireVariable := Or.inl (tw_b4 38 (by decide +kernel) (by decide +kernel))
theorem lk_RX10_130 : LK RX10 130 yX10_requireOrder := Or.inl (tw_b4 57 (by decide +kernel) (by decide +kernel))
theorem lk_RX10_137 : LK RX10 137 yX3_limit := Or.inr ⟨"OverflowGuards", tw_b4 61 (by decide +kernel) (by decide +kernel)⟩
theorem lk_RX10_155 : LK RX10 155 yX10_requireInstruction := Or.inl (tw_b4 88 (by decide +kernel) (by decide +kernel))
theorem lk_RX10_158 : LK RX10 158 yX10_requireNoLoopEdge := Or.inl (tw_b4 93 (by decide +kernel) (by decide +kernel))
theorem lk_RX10_161 : LK RX10 161 yX6_takeOut := Or.inr ⟨"OverflowGuards", tw_b4 99 (by decide +kernel) (by decide +kernel)⟩
theorem lk_RX10_184 : LK RX10 184 yX10_freshenAnalysis := Or.inl (tw_b2 210 (by decide +kernel) (by decide +kernel))
theorem lk_RX10_202 : LK RX10 202 yX0_finalHigh := Or.inr ⟨"OverflowGuards", tw_b3 166 (by decide +kernel) (by decide +kernel)⟩
theorem lk_RX10_206 : LK RX10 206 yX0_finalLow := Or.inr ⟨"OverflowGuards", tw_b3 162 (by decide +kernel) (by decide +kernel)⟩
theorem lk_RX10_212 : LK RX10 212 yX10_freshenRuns := Or.inl (tw_b3 86 (by decide +kernel) (by decide +kernel))
theorem lk_RX10_215 : LK RX10 215 yX10_outcomeOf := Or.inl (tw_b3 129 (by decide +kernel) (by decide +kernel))
theorem lk_RX10_231 : LK RX10 231 yX10_openChecksWith := Or.inl (tw_b4 168 (by decide +kernel) (by decide +kernel))
theorem lk_RX10_234 : LK RX10 234 yX3_narrowTo := Or.inr ⟨"OverflowGuards", tw_b4 187 (by decide +kernel) (by decide +kernel)⟩
theorem lk_RX10_240 : LK RX10 240 yJ9_min_f86c9 := Or.inl (tw_b4 192 (by decide +kernel) (by decide +kernel))
theorem lk_RX10_246 : LK RX10 246 yX10_failsWith := Or.inl (tw_b4 193 (by decide +kernel) (by decide +kernel))
theorem lk_RX10_250 : LK RX10 250 yX10_canFailBetween := Or.inl (tw_b4 197 (by decide +kernel) (by decide +kernel))
theorem lk_RX10_262 : LK RX10 262 yX2_restore := Or.inr ⟨"OverflowGuards", tw_b4 210 (by decide +kernel) (by decide +kernel)⟩
theorem lk_RX10_266 : LK RX10 266 yX10_forgetAnswers := Or.inl (tw_b2 197 (by decide +kernel) (by decide +kernel))
theorem lk_RX10_271 : LK RX10 271 yX10_mixed := Or.inl (tw_b3 150 (by decide +kernel) (by decide +kernel))
theorem lk_RX10_274 : LK RX10 274 yX10_mixedInstruction := Or.inl (tw_b3 154 (by decide +kernel) (by decide +kernel))
theorem lk_RX10_278 : LK RX10 278 yX10_mixedVariable := Or.inl (tw_b3 158 (by decide +kernel) (by decide +kernel))
theorem lk_RX10_281 : LK RX10 281 yX10_mixedRun := Or.inl (tw_b3 170 (by decide +kernel) (by decide +kernel))
theorem lk_RX10_296 : LK RX10 296 yX6_isLoopEdge := Or.inr ⟨"OverflowGuards", tw_b4 97 (by decide +kernel) (by decide +kernel)⟩
theorem lk_RX10_302 : LK RX10 302 yX2_save := Or.inr ⟨"OverflowGuards", tw_b2 173 (by decide +kernel) (by decide +kernel)⟩
theorem lk_RX10_305 : LK RX10 305 yX0_go := Or.inr ⟨"OverflowGuards", tw_b2 214 (by decide +kernel) (by decide +kernel)⟩
theorem lk_RX10_309 : LK RX10 309 yX5_make := Or.inr ⟨"OverflowGuards", tw_b3 35 (by decide +kernel) (by decide +kernel)⟩
theorem lk_RX10_313 : LK RX10 313 yX7_goPlain := Or.inr ⟨"OverflowGuards", tw_b3 90 (by decide +kernel) (by decide +kernel)⟩
theorem lk_RX10_316 : LK RX10 316 yX7_goOptimized := Or.inr ⟨"OverflowGuards", tw_b3 120 (by decide +kernel) (by decide +kernel)⟩
theorem lk_RX10_320 : LK RX10 320 yX3_copyFrom := Or.inr ⟨"OverflowGuards", tw_b4 172 (by decide +kernel) (by decide +kernel)⟩
theorem lk_RX0_11 : LK RX0 11 yX1_init := Or.inr ⟨"OverflowGuards", tw_b1 192 (by decide +kernel) (by decide +kernel)⟩
theorem lk_RX0_60 : LK RX0 60 yX0_begin := Or.inl (tw_b2 218 (by decide +kernel) (by decide +kernel))
theorem lk_RX0_73 : LK RX0 73 yX6_isLoopEdge := Or.inr ⟨"OverflowGuards", tw_b2 227 (by decide +kernel) (by decide +kernel)⟩
theorem lk_RX0_77 : LK RX0 77 yX0_execute := Or.inl (tw_b2 231 (by decide +kernel) (by decide +kernel))
theorem lk_RX0_81 : LK RX0 81 yX1_advance := Or.inr ⟨"OverflowGuards", tw_b3 31 (by decide +kernel) (by decide +kernel)⟩
theorem lk_RX0_91 : LK RX0 91 yX0_assign := Or.inl (tw_b2 222 (by decide +kernel) (by decide +kernel))
theorem lk_RX0_104 : LK RX0 104 yX0_compute := Or.inl (tw_b2 235 (by decide +kernel) (by decide +kernel))
theorem lk_RX0_108 : LK RX0 108 yX0_note := Or.inl (tw_b3 20 (by decide +kernel) (by decide +kernel))
theorem lk_RX0_112 : LK RX0 112 yX10_isInt := Or.inr ⟨"OverflowGuards", tw_b3 24 (by decide +kernel) (by decide +kernel)⟩
theorem lk_RX0_120 : LK RX0 120 yJ9_max_f86c9 := Or.inl (tw_b3 17 (by decide +kernel) (by decide +kernel))
theorem lk_RX0_128 : LK RX0 128 yJ9_min_f86c9 := Or.inl (tw_b3 14 (by decide +kernel) (by decide +kernel))
theorem lk_RX0_134 : LK RX0 134 yX0_lowOf := Or.inl (tw_b2 239 (by decide +kernel) (by decide +kernel))
theorem lk_RX0_138 : LK RX0 138 yX0_highOf := Or.inl (tw_b3 6 (by decide +kernel) (by decide +kernel))
theorem lk_RX0_141 : LK RX0 141 yX0_multiply := Or.inl (tw_b3 10 (by decide +kernel) (by decide +kernel))
theorem lk_RX0_145 : LK RX0 145 yX10_isVariable := Or.inr ⟨"OverflowGuards", tw_b3 3 (by decide +kernel) (by decide +kernel)⟩
theorem lk_RX2_21 : LK RX2 21 yX8_init := Or.inr ⟨"OverflowGuards", tw_b1 175 (by decide +kernel) (by decide +kernel)⟩
theorem lk_RX2_22 : LK RX2 22 yX2_dropOldest := Or.inl (tw_b2 177 (by decide +kernel) (by decide +kernel))
theorem lk_RX2_25 : LK RX2 25 yX8_copyFrom := Or.inr ⟨"OverflowGuards", tw_b2 181 (by decide +kernel) (by decide +kernel)⟩
theorem lk_RX4_43 : LK RX4 43 yX4_readStatement := Or.inl (tw_b2 120 (by decide +kernel) (by decide +kernel))
theorem lk_RX4_46 : LK RX4 46 yX9_at := Or.inr ⟨"OverflowGuards", tw_b2 124 (by decide +kernel) (by decide +kernel)⟩
theorem lk_RX4_49 : LK RX4 49 yX4_isLetter := Or.inl (tw_b2 128 (by decide +kernel) (by decide +kernel))
theorem lk_RX4_53 : LK RX4 53 yX4_readAssignment := Or.inl (tw_b2 131 (by decide +kernel) (by decide +kernel))
theorem lk_RX4_56 : LK RX4 56 yX4_isDigit := Or.inl (tw_b2 143 (by decide +kernel) (by decide +kernel))
theorem lk_RX4_59 : LK RX4 59 yX4_readLoopBegin := Or.inl (tw_b2 157 (by decide +kernel) (by decide +kernel))
theorem lk_RX4_62 : LK RX4 62 yX4_readLoopEnd := Or.inl (tw_b2 161 (by decide +kernel) (by decide +kernel))
theorem lk_RX4_65 : LK RX4 65 yX4_take := Or.inl (tw_b2 135 (by decide +kernel) (by decide +kernel))
theorem lk_RX4_69 : LK RX4 69 yX4_readOperand := Or.inl (tw_b2 139 (by decide +kernel) (by decide +kernel))
theorem lk_RX4_73 : LK RX4 73 yX4_kindOf := Or.inl (tw_b2 150 (by decide +kernel) (by decide +kernel))
theorem lk_RX4_76 : LK RX4 76 yX6_add := Or.inr ⟨"OverflowGuards", tw_b2 153 (by decide +kernel) (by decide +kernel)⟩
theorem lk_RX4_80 : LK RX4 80 yX4_readNumber := Or.inl (tw_b2 146 (by decide +kernel) (by decide +kernel))
theorem lk_RX4_83 : LK RX4 83 yX6_pair := Or.inr ⟨"OverflowGuards", tw_b2 165 (by decide +kernel) (by decide +kernel)⟩
theorem lk_RX5_28 : LK RX5 28 yX5_findCover := Or.inl (tw_b3 39 (by decide +kernel) (by decide +kernel))
theorem lk_RX5_32 : LK RX5 32 yX5_findState := Or.inl (tw_b3 66 (by decide +kernel) (by decide +kernel))
theorem lk_RX5_35 : LK RX5 35 yX6_hasCheck := Or.inr ⟨"OverflowGuards", tw_b3 70 (by decide +kernel) (by decide +kernel)⟩
theorem lk_RX5_47 : LK RX5 47 yX5_canMoveOut := Or.inl (tw_b3 74 (by decide +kernel) (by decide +kernel))
theorem lk_RX5_54 : LK RX5 54 yX6_isLoopEdge := Or.inr ⟨"OverflowGuards", tw_b3 42 (by decide +kernel) (by decide +kernel)⟩
theorem lk_RX5_57 : LK RX5 57 yX5_canCover := Or.inl (tw_b3 43 (by decide +kernel) (by decide +kernel))
theorem lk_RX5_61 : LK RX5 61 yX5_standsBetween := Or.inl (tw_b3 59 (by decide +kernel) (by decide +kernel))
theorem lk_RX5_67 : LK RX5 67 yX6_besides := Or.inr ⟨"OverflowGuards", tw_b3 46 (by decide +kernel) (by decide +kernel)⟩
theorem lk_RX5_71 : LK RX5 71 yX6_assigns := Or.inr ⟨"OverflowGuards", tw_b3 50 (by decide +kernel) (by decide +kernel)⟩
theorem lk_RX5_78 : LK RX5 78 yX0_isNeverNegative := Or.inr ⟨"OverflowGuards", tw_b3 55 (by decide +kernel) (by decide +kernel)⟩
theorem lk_RX5_85 : LK RX5 85 yX6_uses := Or.inr ⟨"OverflowGuards", tw_b3 62 (by decide +kernel) (by decide +kernel)⟩
theorem lk_RX5_88 : LK RX5 88 yX6_innermostLoopOf := Or.inr ⟨"OverflowGuards", tw_b3 78 (by decide +kernel) (by decide +kernel)⟩
theorem lk_RX6_40 : LK RX6 40 yX6_isLoopEdge := Or.inl (tw_b3 54 (by decide +kernel) (by decide +kernel))
theorem lk_RX7_11 : LK RX7 11 yX1_init := Or.inr ⟨"OverflowGuards", tw_b2 39 (by decide +kernel) (by decide +kernel)⟩
theorem lk_RX7_36 : LK RX7 36 yX7_begin := Or.inl (tw_b3 94 (by decide +kernel) (by decide +kernel))
theorem lk_RX7_45 : LK RX7 45 yX6_hasCheck := Or.inr ⟨"OverflowGuards", tw_b3 98 (by decide +kernel) (by decide +kernel)⟩
theorem lk_RX7_50 : LK RX7 50 yX7_isGoingOn := Or.inl (tw_b3 100 (by decide +kernel) (by decide +kernel))
theorem lk_RX7_57 : LK RX7 57 yX6_isLoopEdge := Or.inr ⟨"OverflowGuards", tw_b3 104 (by decide +kernel) (by decide +kernel)⟩
theorem lk_RX7_60 : LK RX7 60 yX7_execute := Or.inl (tw_b3 105 (by decide +kernel) (by decide +kernel))
theorem lk_RX7_64 : LK RX7 64 yX1_advance := Or.inr ⟨"OverflowGuards", tw_b3 119 (by decide +kernel) (by decide +kernel)⟩
theorem lk_RX7_77 : LK RX7 77 yX7_checkAhead := Or.inl (tw_b3 124 (by decide +kernel) (by decide +kernel))
theorem lk_RX7_95 : LK RX7 95 yX6_besides := Or.inr ⟨"OverflowGuards", tw_b3 128 (by decide +kernel) (by decide +kernel)⟩
theorem lk_RX7_99 : LK RX7 99 yX7_valueOf := Or.inl (tw_b3 113 (by decide +kernel) (by decide +kernel))
theorem lk_RX7_103 : LK RX7 103 yX10_isInt := Or.inr ⟨"OverflowGuards", tw_b3 118 (by decide +kernel) (by decide +kernel)⟩
theorem lk_RX7_113 : LK RX7 113 yX7_compute := Or.inl (tw_b3 109 (by decide +kernel) (by decide +kernel))
theorem lk_RX7_117 : LK RX7 117 yX10_isVariable := Or.inr ⟨"OverflowGuards", tw_b3 117 (by decide +kernel) (by decide +kernel)⟩
theorem lk_RX8_9 : LK RX8 9 yX6_init := Or.inr ⟨"OverflowGuards", tw_b1 135 (by decide +kernel) (by decide +kernel)⟩
theorem lk_RX8_18 : LK RX8 18 yX3_init := Or.inr ⟨"OverflowGuards", tw_b1 138 (by decide +kernel) (by decide +kernel)⟩
theorem lk_RX8_23 : LK RX8 23 yX6_copyFrom := Or.inr ⟨"OverflowGuards", tw_b2 185 (by decide +kernel) (by decide +kernel)⟩
theorem lk_RX8_27 : LK RX8 27 yX3_copyFrom := Or.inr ⟨"OverflowGuards", tw_b2 192 (by decide +kernel) (by decide +kernel)⟩
theorem lk_RL_7 : LK RL 7 yX10_append := Or.inl (tw_b3 178 (by decide +kernel) (by decide +kernel))
theorem lk_RL_17 : LK RL 17 yX10_setRange := Or.inl (tw_b4 34 (by decide +kernel) (by decide +kernel))
theorem lk_RL_23 : LK RL 23 yX10_setInput := Or.inl (tw_b4 68 (by decide +kernel) (by decide +kernel))
theorem lk_RL_27 : LK RL 27 yX10_input := Or.inl (tw_b4 76 (by decide +kernel) (by decide +kernel))
theorem lk_RL_30 : LK RL 30 yX10_remove := Or.inl (tw_b4 84 (by decide +kernel) (by decide +kernel))
theorem lk_RL_33 : LK RL 33 yX10_instruction := Or.inl (tw_b4 106 (by decide +kernel) (by decide +kernel))
theorem lk_RL_36 : LK RL 36 yX10_operand := Or.inl (tw_b4 114 (by decide +kernel) (by decide +kernel))
theorem lk_RL_40 : LK RL 40 yX10_state := Or.inl (tw_b4 121 (by decide +kernel) (by decide +kernel))
theorem lk_RL_43 : LK RL 43 yX10_states := Or.inl (tw_b4 128 (by decide +kernel) (by decide +kernel))
theorem lk_RL_46 : LK RL 46 yX10_coveredBy := Or.inl (tw_b4 136 (by decide +kernel) (by decide +kernel))
theorem lk_RL_49 : LK RL 49 yX10_range := Or.inl (tw_b4 143 (by decide +kernel) (by decide +kernel))
theorem lk_RL_53 : LK RL 53 yX10_finalRange := Or.inl (tw_b4 150 (by decide +kernel) (by decide +kernel))
theorem lk_RL_56 : LK RL 56 yX10_result := Or.inl (tw_b4 157 (by decide +kernel) (by decide +kernel))
theorem lk_RL_59 : LK RL 59 yX10_openWith := Or.inl (tw_b4 164 (by decide +kernel) (by decide +kernel))
theorem lk_RL_62 : LK RL 62 yX10_safePower := Or.inl (tw_b4 176 (by decide +kernel) (by decide +kernel))
theorem lk_RL_65 : LK RL 65 yX10_failingInput := Or.inl (tw_b4 183 (by decide +kernel) (by decide +kernel))
theorem lk_RL_68 : LK RL 68 yX10_undo := Or.inl (tw_b4 205 (by decide +kernel) (by decide +kernel))
theorem lk_RL_72 : LK RL 72 yX10_init := Or.inl (tw_b1 23 (by decide +kernel) (by decide +kernel))
theorem lk_RL_75 : LK RL 75 yX11_init := Or.inl (tw_b4 216 (by decide +kernel) (by decide +kernel))
theorem lk_RL_76 : LK RL 76 yL_append := Or.inl (tw_b3 173 (by decide +kernel) (by decide +kernel))
theorem lk_RL_81 : LK RL 81 yX11_append := Or.inl (tw_b5 84 (by decide +kernel) (by decide +kernel))
theorem lk_RL_82 : LK RL 82 yX10_clearText := Or.inl (tw_b2 108 (by decide +kernel) (by decide +kernel))
theorem lk_RL_85 : LK RL 85 yX11_clearText := Or.inl (tw_b5 96 (by decide +kernel) (by decide +kernel))
theorem lk_RL_86 : LK RL 86 yX10_parse := Or.inl (tw_b2 112 (by decide +kernel) (by decide +kernel))
theorem lk_RL_89 : LK RL 89 yX11_parse := Or.inl (tw_b5 100 (by decide +kernel) (by decide +kernel))
theorem lk_RL_90 : LK RL 90 yL_setRange := Or.inl (tw_b4 30 (by decide +kernel) (by decide +kernel))
theorem lk_RL_93 : LK RL 93 yX11_setRange := Or.inl (tw_b5 145 (by decide +kernel) (by decide +kernel))
theorem lk_RL_94 : LK RL 94 yL_setInput := Or.inl (tw_b4 65 (by decide +kernel) (by decide +kernel))
theorem lk_RL_97 : LK RL 97 yX11_setInput := Or.inl (tw_b5 153 (by decide +kernel) (by decide +kernel))
theorem lk_RL_98 : LK RL 98 yL_input := Or.inl (tw_b4 73 (by decide +kernel) (by decide +kernel))
theorem lk_RL_100 : LK RL 100 yX11_input := Or.inl (tw_b5 157 (by decide +kernel) (by decide +kernel))
theorem lk_RL_101 : LK RL 101 yL_remove := Or.inl (tw_b4 81 (by decide +kernel) (by decide +kernel))
theorem lk_RL_103 : LK RL 103 yX11_remove := Or.inl (tw_b5 162 (by decide +kernel) (by decide +kernel))
theorem lk_RL_104 : LK RL 104 yX10_instructions := Or.inl (tw_b2 202 (by decide +kernel) (by decide +kernel))
theorem lk_RL_107 : LK RL 107 yX11_instructions := Or.inl (tw_b5 182 (by decide +kernel) (by decide +kernel))
theorem lk_RL_108 : LK RL 108 yL_instruction := Or.inl (tw_b4 103 (by decide +kernel) (by decide +kernel))
theorem lk_RL_110 : LK RL 110 yX11_instruction := Or.inl (tw_b5 186 (by decide +kernel) (by decide +kernel))
theorem lk_RL_111 : LK RL 111 yL_operand := Or.inl (tw_b4 111 (by decide +kernel) (by decide +kernel))
theorem lk_RL_114 : LK RL 114 yX11_operand := Or.inl (tw_b5 199 (by decide +kernel) (by decide +kernel))
theorem lk_RL_115 : LK RL 115 yL_state := Or.inl (tw_b4 118 (by decide +kernel) (by decide +kernel))
theorem lk_RL_117 : LK RL 117 yX11_state := Or.inl (tw_b5 203 (by decide +kernel) (by decide +kernel))
theorem lk_RL_118 : LK RL 118 yL_states := Or.inl (tw_b4 125 (by decide +kernel) (by decide +kernel))
theorem lk_RL_120 : LK RL 120 yX11_states := Or.inl (tw_b6 18 (by decide +kernel) (by decide +kernel))
theorem lk_RL_121 : LK RL 121 yL_coveredBy := Or.inl (tw_b4 133 (by decide +kernel) (by decide +kernel))
theorem lk_RL_123 : LK RL 123 yX11_coveredBy := Or.inl (tw_b6 27 (by decide +kernel) (by decide +kernel))
theorem lk_RL_124 : LK RL 124 yL_range := Or.inl (tw_b4 140 (by decide +kernel) (by decide +kernel))
theorem lk_RL_126 : LK RL 126 yX11_range := Or.inl (tw_b6 31 (by decide +kernel) (by decide +kernel))
theorem lk_RL_127 : LK RL 127 yL_finalRange := Or.inl (tw_b4 147 (by decide +kernel) (by decide +kernel))
theorem lk_RL_129 : LK RL 129 yX11_finalRange := Or.inl (tw_b6 35 (by decide +kernel) (by decide +kernel))
theorem lk_RL_130 : LK RL 130 yX10_completes := Or.inl (tw_b2 206 (by decide +kernel) (by decide +kernel))
theorem lk_RL_134 : LK RL 134 yX11_completes := Or.inl (tw_b6 43 (by decide +kernel) (by decide +kernel))
theorem lk_RL_135 : LK RL 135 yX10_failure := Or.inl (tw_b3 82 (by decide +kernel) (by decide +kernel))
theorem lk_RL_139 : LK RL 139 yX11_failure := Or.inl (tw_b6 47 (by decide +kernel) (by decide +kernel))
theorem lk_RL_140 : LK RL 140 yL_result := Or.inl (tw_b4 154 (by decide +kernel) (by decide +kernel))
theorem lk_RL_142 : LK RL 142 yX11_result := Or.inl (tw_b6 78 (by decide +kernel) (by decide +kernel))
theorem lk_RL_143 : LK RL 143 yX10_checks := Or.inl (tw_b3 133 (by decide +kernel) (by decide +kernel))
theorem lk_RL_146 : LK RL 146 yX11_checks := Or.inl (tw_b6 82 (by decide +kernel) (by decide +kernel))
theorem lk_RL_147 : LK RL 147 yX10_executed := Or.inl (tw_b3 137 (by decide +kernel) (by decide +kernel))
theorem lk_RL_150 : LK RL 150 yX11_executed := Or.inl (tw_b6 86 (by decide +kernel) (by decide +kernel))
theorem lk_RL_151 : LK RL 151 yX10_saving := Or.inl (tw_b3 141 (by decide +kernel) (by decide +kernel))
theorem lk_RL_155 : LK RL 155 yX11_saving := Or.inl (tw_b6 90 (by decide +kernel) (by decide +kernel))
theorem lk_RL_156 : LK RL 156 yL_openWith := Or.inl (tw_b4 161 (by decide +kernel) (by decide +kernel))
theorem lk_RL_158 : LK RL 158 yX11_openWith := Or.inl (tw_b6 94 (by decide +kernel) (by decide +kernel))
theorem lk_RL_159 : LK RL 159 yL_safePower := Or.inl (tw_b4 173 (by decide +kernel) (by decide +kernel))
theorem lk_RL_161 : LK RL 161 yX11_safePower := Or.inl (tw_b6 102 (by decide +kernel) (by decide +kernel))
theorem lk_RL_162 : LK RL 162 yL_failingInput := Or.inl (tw_b4 180 (by decide +kernel) (by decide +kernel))
theorem lk_RL_164 : LK RL 164 yX11_failingInput := Or.inl (tw_b6 106 (by decide +kernel) (by decide +kernel))
theorem lk_RL_165 : LK RL 165 yX11_thrown := Or.inl (tw_b5 80 (by decide +kernel) (by decide +kernel))
theorem lk_RL_168 : LK RL 168 yL_undo := Or.inl (tw_b4 202 (by decide +kernel) (by decide +kernel))
theorem lk_RL_171 : LK RL 171 yX11_undo := Or.inl (tw_b6 112 (by decide +kernel) (by decide +kernel))
theorem lk_RL_172 : LK RL 172 yX10_digest := Or.inl (tw_b3 145 (by decide +kernel) (by decide +kernel))
theorem lk_RL_176 : LK RL 176 yX11_digest := Or.inl (tw_b6 116 (by decide +kernel) (by decide +kernel))
theorem lk_RX11_82 : LK RX11 82 yX11_of := Or.inl (tw_b5 178 (by decide +kernel) (by decide +kernel))
theorem lk_RX11_86 : LK RX11 86 yX11_kind := Or.inl (tw_b5 174 (by decide +kernel) (by decide +kernel))
theorem lk_RX11_90 : LK RX11 90 yX11_in := Or.inl (tw_b5 89 (by decide +kernel) (by decide +kernel))
theorem lk_RX11_101 : LK RX11 101 yX11_goes := Or.inl (tw_b5 92 (by decide +kernel) (by decide +kernel))
theorem lk_RX11_108 : LK RX11 108 yX11_here := Or.inl (tw_b5 112 (by decide +kernel) (by decide +kernel))
theorem lk_RX11_123 : LK RX11 123 yX11_isLetter := Or.inl (tw_b5 108 (by decide +kernel) (by decide +kernel))
theorem lk_RX11_127 : LK RX11 127 yX11_isFigure := Or.inl (tw_b5 126 (by decide +kernel) (by decide +kernel))
theorem lk_RX11_130 : LK RX11 130 yX11_operandRead := Or.inl (tw_b5 122 (by decide +kernel) (by decide +kernel))
theorem lk_RX11_133 : LK RX11 133 yX11_takes := Or.inl (tw_b5 132 (by decide +kernel) (by decide +kernel))
theorem lk_RX11_142 : LK RX11 142 yX11_readsAssignment := Or.inl (tw_b5 118 (by decide +kernel) (by decide +kernel))
theorem lk_RX11_145 : LK RX11 145 yX11_readsCount := Or.inl (tw_b5 136 (by decide +kernel) (by decide +kernel))
theorem lk_RX11_148 : LK RX11 148 yX11_readsNext := Or.inl (tw_b5 104 (by decide +kernel) (by decide +kernel))
theorem lk_RX11_151 : LK RX11 151 yX11_save := Or.inl (tw_b5 141 (by decide +kernel) (by decide +kernel))
theorem lk_RX11_154 : LK RX11 154 yX11_isName := Or.inl (tw_b5 149 (by decide +kernel) (by decide +kernel))
theorem lk_RX11_160 : LK RX11 160 yX11_isOne := Or.inl (tw_b5 166 (by decide +kernel) (by decide +kernel))
theorem lk_RX11_163 : LK RX11 163 yX11_isLoop := Or.inl (tw_b5 170 (by decide +kernel) (by decide +kernel))
theorem lk_RX11_168 : LK RX11 168 yX11_laysLoops := Or.inl (tw_b5 191 (by decide +kernel) (by decide +kernel))
theorem lk_RX11_171 : LK RX11 171 yX11_told := Or.inl (tw_b5 195 (by decide +kernel) (by decide +kernel))
theorem lk_RX11_180 : LK RX11 180 yX11_lowOf := Or.inl (tw_b5 223 (by decide +kernel) (by decide +kernel))
theorem lk_RX11_184 : LK RX11 184 yX11_highOf := Or.inl (tw_b5 227 (by decide +kernel) (by decide +kernel))
theorem lk_RX11_187 : LK RX11 187 yX11_lesser := Or.inl (tw_b5 231 (by decide +kernel) (by decide +kernel))
theorem lk_RX11_191 : LK RX11 191 yX11_greater := Or.inl (tw_b5 234 (by decide +kernel) (by decide +kernel))
theorem lk_RX11_198 : LK RX11 198 yX11_startsWalk := Or.inl (tw_b5 211 (by decide +kernel) (by decide +kernel))
theorem lk_RX11_205 : LK RX11 205 yX11_walks := Or.inl (tw_b5 215 (by decide +kernel) (by decide +kernel))
theorem lk_RX11_208 : LK RX11 208 yX11_ranges := Or.inl (tw_b5 219 (by decide +kernel) (by decide +kernel))
theorem lk_RX11_211 : LK RX11 211 yX11_goesOn := Or.inl (tw_b5 239 (by decide +kernel) (by decide +kernel))
theorem lk_RX11_214 : LK RX11 214 yX11_coverOf := Or.inl (tw_b6 3 (by decide +kernel) (by decide +kernel))
theorem lk_RX11_217 : LK RX11 217 yX11_isHoisted := Or.inl (tw_b6 10 (by decide +kernel) (by decide +kernel))
theorem lk_RX11_220 : LK RX11 220 yX11_has := Or.inl (tw_b6 7 (by decide +kernel) (by decide +kernel))
theorem lk_RX11_224 : LK RX11 224 yX11_stepOf := Or.inl (tw_b6 14 (by decide +kernel) (by decide +kernel))
theorem lk_RX11_227 : LK RX11 227 yX11_analyses := Or.inl (tw_b5 207 (by decide +kernel) (by decide +kernel))
theorem lk_RX11_232 : LK RX11 232 yX11_statesFrom := Or.inl (tw_b6 23 (by decide +kernel) (by decide +kernel))
theorem lk_RX11_235 : LK RX11 235 yX11_finalOf := Or.inl (tw_b6 39 (by decide +kernel) (by decide +kernel))
theorem lk_RX11_239 : LK RX11 239 yX11_valueOf := Or.inl (tw_b6 63 (by decide +kernel) (by decide +kernel))
theorem lk_RX11_245 : LK RX11 245 yX11_isInt := Or.inl (tw_b6 67 (by decide +kernel) (by decide +kernel))
theorem lk_RX11_255 : LK RX11 255 yX11_checksLoop := Or.inl (tw_b6 59 (by decide +kernel) (by decide +kernel))
theorem lk_RX11_259 : LK RX11 259 yX11_exact := Or.inl (tw_b6 70 (by decide +kernel) (by decide +kernel))
theorem lk_RX11_262 : LK RX11 262 yX11_isChecked := Or.inl (tw_b6 74 (by decide +kernel) (by decide +kernel))
theorem lk_RX11_266 : LK RX11 266 yX11_runs := Or.inl (tw_b6 55 (by decide +kernel) (by decide +kernel))
theorem lk_RX11_270 : LK RX11 270 yX11_outcome := Or.inl (tw_b6 51 (by decide +kernel) (by decide +kernel))
theorem lk_RX11_274 : LK RX11 274 yX11_openOnes := Or.inl (tw_b6 98 (by decide +kernel) (by decide +kernel))
theorem lk_RX11_285 : LK RX11 285 yX11_sumsRun := Or.inl (tw_b6 122 (by decide +kernel) (by decide +kernel))
theorem kc_RX0_64 : Cond.constant RX0 64 (1000000) ∈ TW := tw_b2 226 (by decide +kernel) (by decide +kernel)
theorem kc_RX10_325 : Cond.constantLong RX10 325 (-2147483648) ∈ TW := tw_b3 27 (by decide +kernel) (by decide +kernel)
theorem kc_RX10_327 : Cond.constantLong RX10 327 (2147483647) ∈ TW := tw_b3 28 (by decide +kernel) (by decide +kernel)
theorem kc_RX0_118 : Cond.constantLong RX0 118 (-2147483648) ∈ TW := tw_b3 29 (by decide +kernel) (by decide +kernel)
theorem kc_RX0_126 : Cond.constantLong RX0 126 (2147483647) ∈ TW := tw_b3 30 (by decide +kernel) (by decide +kernel)
theorem kc_RX7_49 : Cond.constant RX7 49 (1000000) ∈ TW := tw_b3 99 (by decide +kernel) (by decide +kernel)
theorem kc_RX10_269 : Cond.constantLong RX10 269 (2953) ∈ TW := tw_b3 149 (by decide +kernel) (by decide +kernel)
theorem kc_RX10_285 : Cond.constantLong RX10 285 (31) ∈ TW := tw_b3 153 (by decide +kernel) (by decide +kernel)
theorem kc_RX10_238 : Cond.constantLong RX10 238 (200) ∈ TW := tw_b4 191 (by decide +kernel) (by decide +kernel)
theorem kc_RX10_256 : Cond.constant RX10 256 (-2147483648) ∈ TW := tw_b4 201 (by decide +kernel) (by decide +kernel)
theorem kc_RX11_96 : Cond.constantLong RX11 96 (127) ∈ TW := tw_b5 88 (by decide +kernel) (by decide +kernel)
theorem kc_RX11_116 : Cond.constantLong RX11 116 (97) ∈ TW := tw_b5 116 (by decide +kernel) (by decide +kernel)
theorem kc_RX11_118 : Cond.constantLong RX11 118 (104) ∈ TW := tw_b5 117 (by decide +kernel) (by decide +kernel)
theorem kc_RX11_112 : Cond.constantLong RX11 112 (48) ∈ TW := tw_b5 130 (by decide +kernel) (by decide +kernel)
theorem kc_RX11_114 : Cond.constantLong RX11 114 (57) ∈ TW := tw_b5 131 (by decide +kernel) (by decide +kernel)
theorem kc_RX11_137 : Cond.constantLong RX11 137 (40) ∈ TW := tw_b5 140 (by decide +kernel) (by decide +kernel)
theorem kc_RX11_94 : Cond.constantLong RX11 94 (7) ∈ TW := tw_b5 152 (by decide +kernel) (by decide +kernel)
theorem kc_RX11_158 : Cond.constantLong RX11 158 (2) ∈ TW := tw_b5 161 (by decide +kernel) (by decide +kernel)
theorem kc_RX11_166 : Cond.constantLong RX11 166 (3) ∈ TW := tw_b5 190 (by decide +kernel) (by decide +kernel)
theorem kc_RX11_194 : Cond.constantLong RX11 194 (-2147483648) ∈ TW := tw_b5 237 (by decide +kernel) (by decide +kernel)
theorem kc_RX11_196 : Cond.constantLong RX11 196 (2147483647) ∈ TW := tw_b5 238 (by decide +kernel) (by decide +kernel)
theorem kc_RX11_230 : Cond.constantLong RX11 230 (4) ∈ TW := tw_b6 22 (by decide +kernel) (by decide +kernel)
theorem kc_RX11_278 : Cond.constantLong RX11 278 (200) ∈ TW := tw_b6 110 (by decide +kernel) (by decide +kernel)
theorem kc_RX11_280 : Cond.constant RX11 280 (-2147483648) ∈ TW := tw_b6 111 (by decide +kernel) (by decide +kernel)
theorem kc_RX11_281 : Cond.constantLong RX11 281 (31) ∈ TW := tw_b6 120 (by decide +kernel) (by decide +kernel)
theorem kc_RX11_283 : Cond.constantLong RX11 283 (91543) ∈ TW := tw_b6 121 (by decide +kernel) (by decide +kernel)
theorem ini_RL : Cond.initialized RL ∈ TW := tw_b1 0 (by decide +kernel) (by decide +kernel)
theorem ini_RX10 : Cond.initialized RX10 ∈ TW := tw_b1 1 (by decide +kernel) (by decide +kernel)
theorem ini_RX9 : Cond.initialized RX9 ∈ TW := tw_b1 2 (by decide +kernel) (by decide +kernel)
theorem ini_RX6 : Cond.initialized RX6 ∈ TW := tw_b1 3 (by decide +kernel) (by decide +kernel)
theorem ini_RX4 : Cond.initialized RX4 ∈ TW := tw_b1 4 (by decide +kernel) (by decide +kernel)
theorem ini_RX8 : Cond.initialized RX8 ∈ TW := tw_b1 5 (by decide +kernel) (by decide +kernel)
theorem ini_RX3 : Cond.initialized RX3 ∈ TW := tw_b1 6 (by decide +kernel) (by decide +kernel)
theorem ini_RX2 : Cond.initialized RX2 ∈ TW := tw_b1 7 (by decide +kernel) (by decide +kernel)
theorem ini_RX0 : Cond.initialized RX0 ∈ TW := tw_b1 8 (by decide +kernel) (by decide +kernel)
theorem ini_RX1 : Cond.initialized RX1 ∈ TW := tw_b1 9 (by decide +kernel) (by decide +kernel)
theorem ini_RX5 : Cond.initialized RX5 ∈ TW := tw_b1 10 (by decide +kernel) (by decide +kernel)
theorem ini_RX7 : Cond.initialized RX7 ∈ TW := tw_b1 11 (by decide +kernel) (by decide +kernel)
theorem ini_RX11 : Cond.initialized RX11 ∈ TW := tw_b1 12 (by decide +kernel) (by decide +kernel)
theorem ac_i : Cond.initialized "java/lang/System" ∈ TW := tw_b1 18 (by decide +kernel) (by decide +kernel)
theorem ini_RJ10 : Cond.initialized RJ10 ∈ TW := tw_b1 18 (by decide +kernel) (by decide +kernel)
theorem ma_i : Cond.initialized "java/lang/Math" ∈ TW := tw_b1 20 (by decide +kernel) (by decide +kernel)
theorem ini_RJ9 : Cond.initialized RJ9 ∈ TW := tw_b1 20 (by decide +kernel) (by decide +kernel)
theorem cl_RL_8 : Cond.classLink RL 8 RX10 ∈ TW := tw_b1 21 (by decide +kernel) (by decide +kernel)
theorem is_RX10 : Cond.instantiable RX10 14 ∈ TW := tw_b1 22 (by decide +kernel) (by decide +kernel)
theorem oi_RX10 : Cond.methodLink RX10 1 Lib.objectInit ∈ TW := tw_b1 26 (by decide +kernel) (by decide +kernel)
theorem oi_i : Cond.instanceMethod Lib.objectInit ∈ TW := tw_b1 27 (by decide +kernel) (by decide +kernel)
theorem oi_c : Cond.code Lib.objectInit ⟨#[0xb1]⟩ 1 none ∈ TW := tw_b1 28 (by decide +kernel) (by decide +kernel)
theorem cl_RX10_7 : Cond.classLink RX10 7 RX9 ∈ TW := tw_b1 29 (by decide +kernel) (by decide +kernel)
theorem is_RX9 : Cond.instantiable RX9 2 ∈ TW := tw_b1 30 (by decide +kernel) (by decide +kernel)
theorem oi_RX9 : Cond.methodLink RX9 3 Lib.objectInit ∈ TW := tw_b1 34 (by decide +kernel) (by decide +kernel)
theorem ak_int : Cond.arrayClass (.int) ∈ TW := tw_b1 44 (by decide +kernel) (by decide +kernel)
theorem cl_RX10_16 : Cond.classLink RX10 16 RX6 ∈ TW := tw_b1 45 (by decide +kernel) (by decide +kernel)
theorem is_RX6 : Cond.instantiable RX6 7 ∈ TW := tw_b1 46 (by decide +kernel) (by decide +kernel)
theorem oi_RX6 : Cond.methodLink RX6 3 Lib.objectInit ∈ TW := tw_b1 50 (by decide +kernel) (by decide +kernel)
theorem cl_RX10_23 : Cond.classLink RX10 23 RX4 ∈ TW := tw_b1 103 (by decide +kernel) (by decide +kernel)
theorem is_RX4 : Cond.instantiable RX4 6 ∈ TW := tw_b1 104 (by decide +kernel) (by decide +kernel)
theorem oi_RX4 : Cond.methodLink RX4 3 Lib.objectInit ∈ TW := tw_b1 108 (by decide +kernel) (by decide +kernel)
theorem cl_RX10_32 : Cond.classLink RX10 32 RX8 ∈ TW := tw_b1 128 (by decide +kernel) (by decide +kernel)
theorem is_RX8 : Cond.instantiable RX8 2 ∈ TW := tw_b1 129 (by decide +kernel) (by decide +kernel)
theorem oi_RX8 : Cond.methodLink RX8 1 Lib.objectInit ∈ TW := tw_b1 133 (by decide +kernel) (by decide +kernel)
theorem cl_RX8_7 : Cond.classLink RX8 7 RX6 ∈ TW := tw_b1 134 (by decide +kernel) (by decide +kernel)
theorem cl_RX8_16 : Cond.classLink RX8 16 RX3 ∈ TW := tw_b1 136 (by decide +kernel) (by decide +kernel)
theorem is_RX3 : Cond.instantiable RX3 3 ∈ TW := tw_b1 137 (by decide +kernel) (by decide +kernel)
theorem oi_RX3 : Cond.methodLink RX3 3 Lib.objectInit ∈ TW := tw_b1 141 (by decide +kernel) (by decide +kernel)
theorem cl_RX10_39 : Cond.classLink RX10 39 RX2 ∈ TW := tw_b1 167 (by decide +kernel) (by decide +kernel)
theorem is_RX2 : Cond.instantiable RX2 2 ∈ TW := tw_b1 168 (by decide +kernel) (by decide +kernel)
theorem oi_RX2 : Cond.methodLink RX2 3 Lib.objectInit ∈ TW := tw_b1 172 (by decide +kernel) (by decide +kernel)
theorem cl_RX2_15 : Cond.classLink RX2 15 RX8 ∈ TW := tw_b1 173 (by decide +kernel) (by decide +kernel)
theorem cl_RX10_46 : Cond.classLink RX10 46 RX0 ∈ TW := tw_b1 184 (by decide +kernel) (by decide +kernel)
theorem is_RX0 : Cond.instantiable RX0 13 ∈ TW := tw_b1 185 (by decide +kernel) (by decide +kernel)
theorem oi_RX0 : Cond.methodLink RX0 3 Lib.objectInit ∈ TW := tw_b1 189 (by decide +kernel) (by decide +kernel)
theorem cl_RX0_9 : Cond.classLink RX0 9 RX1 ∈ TW := tw_b1 190 (by decide +kernel) (by decide +kernel)
theorem is_RX1 : Cond.instantiable RX1 2 ∈ TW := tw_b1 191 (by decide +kernel) (by decide +kernel)
theorem oi_RX1 : Cond.methodLink RX1 3 Lib.objectInit ∈ TW := tw_b1 195 (by decide +kernel) (by decide +kernel)
theorem ak_long : Cond.arrayClass (.long) ∈ TW := tw_b2 11 (by decide +kernel) (by decide +kernel)
theorem ak_boolean : Cond.arrayClass (.boolean) ∈ TW := tw_b2 12 (by decide +kernel) (by decide +kernel)
theorem cl_RX10_53 : Cond.classLink RX10 53 RX5 ∈ TW := tw_b2 13 (by decide +kernel) (by decide +kernel)
theorem is_RX5 : Cond.instantiable RX5 3 ∈ TW := tw_b2 14 (by decide +kernel) (by decide +kernel)
theorem oi_RX5 : Cond.methodLink RX5 3 Lib.objectInit ∈ TW := tw_b2 18 (by decide +kernel) (by decide +kernel)
theorem cl_RX10_60 : Cond.classLink RX10 60 RX7 ∈ TW := tw_b2 32 (by decide +kernel) (by decide +kernel)
theorem is_RX7 : Cond.instantiable RX7 6 ∈ TW := tw_b2 33 (by decide +kernel) (by decide +kernel)
theorem oi_RX7 : Cond.methodLink RX7 3 Lib.objectInit ∈ TW := tw_b2 37 (by decide +kernel) (by decide +kernel)
theorem cl_RX7_9 : Cond.classLink RX7 9 RX1 ∈ TW := tw_b2 38 (by decide +kernel) (by decide +kernel)
theorem cl_RX10_77 : Cond.classLink RX10 77 RX3 ∈ TW := tw_b2 63 (by decide +kernel) (by decide +kernel)
theorem ac_RX6 : Cond.methodLink RX6 34 arraycopyName ∈ TW := tw_b2 189 (by decide +kernel) (by decide +kernel)
theorem ac_s : Cond.static arraycopyName ∈ TW := tw_b2 190 (by decide +kernel) (by decide +kernel)
theorem ac_n : Cond.native arraycopyName ∈ TW := tw_b2 191 (by decide +kernel) (by decide +kernel)
theorem ac_RX3 : Cond.methodLink RX3 21 arraycopyName ∈ TW := tw_b2 196 (by decide +kernel) (by decide +kernel)
theorem ma_RX0_128 : Cond.methodLink RX0 128 Lib.MathLoose.min_long.x ∈ TW := tw_b3 14 (by decide +kernel) (by decide +kernel)
theorem ma_s_min : Cond.static Lib.MathLoose.min_long.x ∈ TW := tw_b3 15 (by decide +kernel) (by decide +kernel)
theorem ma_c_min : Cond.code Lib.MathLoose.min_long.x Lib.MathLoose.min_long.code 4 (some .long) ∈ TW := tw_b3 16 (by decide +kernel) (by decide +kernel)
theorem ma_RX0_120 : Cond.methodLink RX0 120 Lib.MathLoose.max_long.x ∈ TW := tw_b3 17 (by decide +kernel) (by decide +kernel)
theorem ma_s_max : Cond.static Lib.MathLoose.max_long.x ∈ TW := tw_b3 18 (by decide +kernel) (by decide +kernel)
theorem ma_c_max : Cond.code Lib.MathLoose.max_long.x Lib.MathLoose.max_long.code 4 (some .long) ∈ TW := tw_b3 19 (by decide +kernel) (by decide +kernel)
theorem ak_byte : Cond.arrayClass (.byte) ∈ TW := tw_b4 9 (by decide +kernel) (by decide +kernel)
theorem ma_RX10_240 : Cond.methodLink RX10 240 Lib.MathLoose.min_long.x ∈ TW := tw_b4 192 (by decide +kernel) (by decide +kernel)
theorem cl_RL_73 : Cond.classLink RL 73 RX11 ∈ TW := tw_b4 214 (by decide +kernel) (by decide +kernel)
theorem is_RX11 : Cond.instantiable RX11 33 ∈ TW := tw_b4 215 (by decide +kernel) (by decide +kernel)
theorem oi_RX11 : Cond.methodLink RX11 1 Lib.objectInit ∈ TW := tw_b4 219 (by decide +kernel) (by decide +kernel)
