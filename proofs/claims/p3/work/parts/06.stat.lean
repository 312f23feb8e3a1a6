theorem tw_all (wl : List Cond) (ps : List Nat) (hp : wl = ps.filterMap (fun i => lw_tbl[i]?)) (h : wl.all tWord = true) : ∀ w ∈ wl, w ∈ TW := by
  intro w hw
  have h1 := List.all_eq_true.mp h w hw
  rw [hp] at hw
  obtain ⟨i, -, hi⟩ := List.mem_filterMap.mp hw
  exact tw_in i hi h1
theorem inW0 : ∀ w ∈ u_ws RX0 TX0 13, w ∈ TW := tw_all _ [324, 326, 328, 330, 332, 334, 336, 338, 340, 342, 344, 346, 348] (by decide +kernel) (by decide +kernel)
theorem inW1 : ∀ w ∈ u_ws RX1 TX1 2, w ∈ TW := tw_all _ [300, 302] (by decide +kernel) (by decide +kernel)
theorem inW2 : ∀ w ∈ u_ws RX2 TX2 2, w ∈ TW := tw_all _ [279, 281] (by decide +kernel) (by decide +kernel)
theorem inW3 : ∀ w ∈ u_ws RX3 TX3 3, w ∈ TW := tw_all _ [251, 253, 255] (by decide +kernel) (by decide +kernel)
theorem inW4 : ∀ w ∈ u_ws RX4 TX4 6, w ∈ TW := tw_all _ [215, 217, 219, 221, 223, 225] (by decide +kernel) (by decide +kernel)
theorem inW5 : ∀ w ∈ u_ws RX5 TX5 3, w ∈ TW := tw_all _ [365, 367, 369] (by decide +kernel) (by decide +kernel)
theorem inW6 : ∀ w ∈ u_ws RX6 TX6 7, w ∈ TW := tw_all _ [188, 190, 192, 194, 196, 198, 200] (by decide +kernel) (by decide +kernel)
theorem inW7 : ∀ w ∈ u_ws RX7 TX7 6, w ∈ TW := tw_all _ [390, 392, 394, 396, 398, 400] (by decide +kernel) (by decide +kernel)
theorem inW8 : ∀ w ∈ u_ws RX8 TX8 2, w ∈ TW := tw_all _ [262, 264] (by decide +kernel) (by decide +kernel)
theorem inW9 : ∀ w ∈ u_ws RX9 TX9 2, w ∈ TW := tw_all _ [139, 141] (by decide +kernel) (by decide +kernel)
theorem inW10 : ∀ w ∈ u_ws RX10 TX10 14, w ∈ TW := tw_all _ [419, 421, 423, 425, 427, 429, 431, 433, 435, 437, 439, 441, 443, 445] (by decide +kernel) (by decide +kernel)
theorem inW11 : ∀ w ∈ u_ws RX11 TX11 33, w ∈ TW := tw_all _ [1073, 1075, 1077, 1079, 1081, 1083, 1085, 1087, 1089, 1091, 1093, 1095, 1097, 1099, 1101, 1103, 1105, 1107, 1109, 1111, 1113, 1115, 1117, 1119, 1121, 1123, 1125, 1127, 1129, 1131, 1133, 1135, 1137] (by decide +kernel) (by decide +kernel)
theorem fp_RX10_10 : FP RX10 10 10 0 true (.object "OverflowGuards$Text") := ⟨RX10, TX10, 14, tyX10, rfl, by decide, rfl, inW10, Or.inl (tw_in 405 (by decide +kernel) (by decide +kernel)), tyX10_ok, nmX10, rfl, by decide +kernel⟩
theorem fp_RX10_19 : FP RX10 19 10 1 true (.object "OverflowGuards$Program") := ⟨RX10, TX10, 14, tyX10, rfl, by decide, rfl, inW10, Or.inl (tw_in 406 (by decide +kernel) (by decide +kernel)), tyX10_ok, nmX10, rfl, by decide +kernel⟩
theorem fp_RX10_28 : FP RX10 28 10 2 true (.object "OverflowGuards$Parser") := ⟨RX10, TX10, 14, tyX10, rfl, by decide, rfl, inW10, Or.inl (tw_in 407 (by decide +kernel) (by decide +kernel)), tyX10_ok, nmX10, rfl, by decide +kernel⟩
theorem fp_RX10_35 : FP RX10 35 10 3 true (.object "OverflowGuards$Situation") := ⟨RX10, TX10, 14, tyX10, rfl, by decide, rfl, inW10, Or.inl (tw_in 408 (by decide +kernel) (by decide +kernel)), tyX10_ok, nmX10, rfl, by decide +kernel⟩
theorem fp_RX10_42 : FP RX10 42 10 4 true (.object "OverflowGuards$History") := ⟨RX10, TX10, 14, tyX10, rfl, by decide, rfl, inW10, Or.inl (tw_in 409 (by decide +kernel) (by decide +kernel)), tyX10_ok, nmX10, rfl, by decide +kernel⟩
theorem fp_RX10_49 : FP RX10 49 10 5 true (.object "OverflowGuards$Analysis") := ⟨RX10, TX10, 14, tyX10, rfl, by decide, rfl, inW10, Or.inl (tw_in 410 (by decide +kernel) (by decide +kernel)), tyX10_ok, nmX10, rfl, by decide +kernel⟩
theorem fp_RX10_56 : FP RX10 56 10 6 true (.object "OverflowGuards$Plan") := ⟨RX10, TX10, 14, tyX10, rfl, by decide, rfl, inW10, Or.inl (tw_in 411 (by decide +kernel) (by decide +kernel)), tyX10_ok, nmX10, rfl, by decide +kernel⟩
theorem fp_RX10_63 : FP RX10 63 10 7 true (.object "OverflowGuards$Run") := ⟨RX10, TX10, 14, tyX10, rfl, by decide, rfl, inW10, Or.inl (tw_in 412 (by decide +kernel) (by decide +kernel)), tyX10_ok, nmX10, rfl, by decide +kernel⟩
theorem fp_RX10_67 : FP RX10 67 10 8 true (.object "OverflowGuards$Run") := ⟨RX10, TX10, 14, tyX10, rfl, by decide, rfl, inW10, Or.inl (tw_in 413 (by decide +kernel) (by decide +kernel)), tyX10_ok, nmX10, rfl, by decide +kernel⟩
theorem fp_RX10_70 : FP RX10 70 10 9 false (.boolean) := ⟨RX10, TX10, 14, tyX10, rfl, by decide, rfl, inW10, Or.inl (tw_in 414 (by decide +kernel) (by decide +kernel)), tyX10_ok, nmX10, rfl, by decide +kernel⟩
theorem fp_RX10_74 : FP RX10 74 10 10 false (.boolean) := ⟨RX10, TX10, 14, tyX10, rfl, by decide, rfl, inW10, Or.inl (tw_in 415 (by decide +kernel) (by decide +kernel)), tyX10_ok, nmX10, rfl, by decide +kernel⟩
theorem fp_RX10_80 : FP RX10 80 10 11 true (.object "OverflowGuards$Inputs") := ⟨RX10, TX10, 14, tyX10, rfl, by decide, rfl, inW10, Or.inl (tw_in 416 (by decide +kernel) (by decide +kernel)), tyX10_ok, nmX10, rfl, by decide +kernel⟩
theorem fp_RX10_84 : FP RX10 84 10 12 true (.object "OverflowGuards$Analysis") := ⟨RX10, TX10, 14, tyX10, rfl, by decide, rfl, inW10, Or.inl (tw_in 417 (by decide +kernel) (by decide +kernel)), tyX10_ok, nmX10, rfl, by decide +kernel⟩
theorem fp_RX10_87 : FP RX10 87 10 13 true (.object "OverflowGuards$Run") := ⟨RX10, TX10, 14, tyX10, rfl, by decide, rfl, inW10, Or.inl (tw_in 418 (by decide +kernel) (by decide +kernel)), tyX10_ok, nmX10, rfl, by decide +kernel⟩
theorem fp_RX10_97 : FP RX10 97 9 1 false (.int) := ⟨RX9, TX9, 2, tyX9, rfl, by decide, rfl, inW9, Or.inr ⟨"OverflowGuards", tw_in 137 (by decide +kernel) (by decide +kernel)⟩, tyX9_ok, nmX9, rfl, by decide +kernel⟩
theorem fp_RX10_117 : FP RX10 117 8 0 true (.object "OverflowGuards$Program") := ⟨RX8, TX8, 2, tyX8, rfl, by decide, rfl, inW8, Or.inr ⟨"OverflowGuards", tw_in 259 (by decide +kernel) (by decide +kernel)⟩, tyX8_ok, nmX8, rfl, by decide +kernel⟩
theorem fp_RX10_124 : FP RX10 124 6 0 false (.int) := ⟨RX6, TX6, 7, tyX6, rfl, by decide, rfl, inW6, Or.inr ⟨"OverflowGuards", tw_in 156 (by decide +kernel) (by decide +kernel)⟩, tyX6_ok, nmX6, rfl, by decide +kernel⟩
theorem fp_RX10_134 : FP RX10 134 8 1 true (.object "OverflowGuards$Inputs") := ⟨RX8, TX8, 2, tyX8, rfl, by decide, rfl, inW8, Or.inr ⟨"OverflowGuards", tw_in 261 (by decide +kernel) (by decide +kernel)⟩, tyX8_ok, nmX8, rfl, by decide +kernel⟩
theorem fp_RX10_141 : FP RX10 141 3 0 true (.array .int) := ⟨RX3, TX3, 3, tyX3, rfl, by decide, rfl, inW3, Or.inr ⟨"OverflowGuards", tw_in 244 (by decide +kernel) (by decide +kernel)⟩, tyX3_ok, nmX3, rfl, by decide +kernel⟩
theorem fp_RX10_145 : FP RX10 145 3 1 true (.array .int) := ⟨RX3, TX3, 3, tyX3, rfl, by decide, rfl, inW3, Or.inr ⟨"OverflowGuards", tw_in 247 (by decide +kernel) (by decide +kernel)⟩, tyX3_ok, nmX3, rfl, by decide +kernel⟩
theorem fp_RX10_150 : FP RX10 150 3 2 true (.array .int) := ⟨RX3, TX3, 3, tyX3, rfl, by decide, rfl, inW3, Or.inr ⟨"OverflowGuards", tw_in 250 (by decide +kernel) (by decide +kernel)⟩, tyX3_ok, nmX3, rfl, by decide +kernel⟩
theorem fp_RX10_164 : FP RX10 164 6 1 true (.array .int) := ⟨RX6, TX6, 7, tyX6, rfl, by decide, rfl, inW6, Or.inr ⟨"OverflowGuards", tw_in 162 (by decide +kernel) (by decide +kernel)⟩, tyX6_ok, nmX6, rfl, by decide +kernel⟩
theorem fp_RX10_167 : FP RX10 167 6 2 true (.array .int) := ⟨RX6, TX6, 7, tyX6, rfl, by decide, rfl, inW6, Or.inr ⟨"OverflowGuards", tw_in 168 (by decide +kernel) (by decide +kernel)⟩, tyX6_ok, nmX6, rfl, by decide +kernel⟩
theorem fp_RX10_170 : FP RX10 170 6 5 true (.array .int) := ⟨RX6, TX6, 7, tyX6, rfl, by decide, rfl, inW6, Or.inr ⟨"OverflowGuards", tw_in 182 (by decide +kernel) (by decide +kernel)⟩, tyX6_ok, nmX6, rfl, by decide +kernel⟩
theorem fp_RX10_173 : FP RX10 173 6 6 true (.array .int) := ⟨RX6, TX6, 7, tyX6, rfl, by decide, rfl, inW6, Or.inr ⟨"OverflowGuards", tw_in 187 (by decide +kernel) (by decide +kernel)⟩, tyX6_ok, nmX6, rfl, by decide +kernel⟩
theorem fp_RX10_178 : FP RX10 178 6 4 true (.array .int) := ⟨RX6, TX6, 7, tyX6, rfl, by decide, rfl, inW6, Or.inr ⟨"OverflowGuards", tw_in 178 (by decide +kernel) (by decide +kernel)⟩, tyX6_ok, nmX6, rfl, by decide +kernel⟩
theorem fp_RX10_181 : FP RX10 181 6 3 true (.array .int) := ⟨RX6, TX6, 7, tyX6, rfl, by decide, rfl, inW6, Or.inr ⟨"OverflowGuards", tw_in 173 (by decide +kernel) (by decide +kernel)⟩, tyX6_ok, nmX6, rfl, by decide +kernel⟩
theorem fp_RX10_187 : FP RX10 187 5 0 true (.array .int) := ⟨RX5, TX5, 3, tyX5, rfl, by decide, rfl, inW5, Or.inr ⟨"OverflowGuards", tw_in 361 (by decide +kernel) (by decide +kernel)⟩, tyX5_ok, nmX5, rfl, by decide +kernel⟩
theorem fp_RX10_192 : FP RX10 192 5 1 true (.array .int) := ⟨RX5, TX5, 3, tyX5, rfl, by decide, rfl, inW5, Or.inr ⟨"OverflowGuards", tw_in 363 (by decide +kernel) (by decide +kernel)⟩, tyX5_ok, nmX5, rfl, by decide +kernel⟩
theorem fp_RX10_195 : FP RX10 195 0 9 true (.array .long) := ⟨RX0, TX0, 13, tyX0, rfl, by decide, rfl, inW0, Or.inr ⟨"OverflowGuards", tw_in 320 (by decide +kernel) (by decide +kernel)⟩, tyX0_ok, nmX0, rfl, by decide +kernel⟩
theorem fp_RX10_199 : FP RX10 199 0 8 true (.array .long) := ⟨RX0, TX0, 13, tyX0, rfl, by decide, rfl, inW0, Or.inr ⟨"OverflowGuards", tw_in 318 (by decide +kernel) (by decide +kernel)⟩, tyX0_ok, nmX0, rfl, by decide +kernel⟩
theorem fp_RX10_209 : FP RX10 209 0 1 false (.boolean) := ⟨RX0, TX0, 13, tyX0, rfl, by decide, rfl, inW0, Or.inr ⟨"OverflowGuards", tw_in 307 (by decide +kernel) (by decide +kernel)⟩, tyX0_ok, nmX0, rfl, by decide +kernel⟩
theorem fp_RX10_219 : FP RX10 219 7 2 false (.int) := ⟨RX7, TX7, 6, tyX7, rfl, by decide, rfl, inW7, Or.inr ⟨"OverflowGuards", tw_in 384 (by decide +kernel) (by decide +kernel)⟩, tyX7_ok, nmX7, rfl, by decide +kernel⟩
theorem fp_RX10_222 : FP RX10 222 7 1 true (.array .long) := ⟨RX7, TX7, 6, tyX7, rfl, by decide, rfl, inW7, Or.inr ⟨"OverflowGuards", tw_in 382 (by decide +kernel) (by decide +kernel)⟩, tyX7_ok, nmX7, rfl, by decide +kernel⟩
theorem fp_RX10_225 : FP RX10 225 7 3 false (.int) := ⟨RX7, TX7, 6, tyX7, rfl, by decide, rfl, inW7, Or.inr ⟨"OverflowGuards", tw_in 386 (by decide +kernel) (by decide +kernel)⟩, tyX7_ok, nmX7, rfl, by decide +kernel⟩
theorem fp_RX10_228 : FP RX10 228 7 4 false (.int) := ⟨RX7, TX7, 6, tyX7, rfl, by decide, rfl, inW7, Or.inr ⟨"OverflowGuards", tw_in 388 (by decide +kernel) (by decide +kernel)⟩, tyX7_ok, nmX7, rfl, by decide +kernel⟩
theorem fp_RX10_257 : FP RX10 257 2 0 false (.int) := ⟨RX2, TX2, 2, tyX2, rfl, by decide, rfl, inW2, Or.inr ⟨"OverflowGuards", tw_in 277 (by decide +kernel) (by decide +kernel)⟩, tyX2_ok, nmX2, rfl, by decide +kernel⟩
theorem fp_RX10_322 : FP RX10 322 0 2 false (.int) := ⟨RX0, TX0, 13, tyX0, rfl, by decide, rfl, inW0, Or.inr ⟨"OverflowGuards", tw_in 309 (by decide +kernel) (by decide +kernel)⟩, tyX0_ok, nmX0, rfl, by decide +kernel⟩
theorem fp_RX0_12 : FP RX0 12 0 0 true (.object "OverflowGuards$Cursor") := ⟨RX0, TX0, 13, tyX0, rfl, by decide, rfl, inW0, Or.inl (tw_in 305 (by decide +kernel) (by decide +kernel)), tyX0_ok, nmX0, rfl, by decide +kernel⟩
theorem fp_RX0_18 : FP RX0 18 0 1 false (.boolean) := ⟨RX0, TX0, 13, tyX0, rfl, by decide, rfl, inW0, Or.inl (tw_in 306 (by decide +kernel) (by decide +kernel)), tyX0_ok, nmX0, rfl, by decide +kernel⟩
theorem fp_RX0_22 : FP RX0 22 0 2 false (.int) := ⟨RX0, TX0, 13, tyX0, rfl, by decide, rfl, inW0, Or.inl (tw_in 308 (by decide +kernel) (by decide +kernel)), tyX0_ok, nmX0, rfl, by decide +kernel⟩
theorem fp_RX0_26 : FP RX0 26 0 3 true (.array .long) := ⟨RX0, TX0, 13, tyX0, rfl, by decide, rfl, inW0, Or.inl (tw_in 310 (by decide +kernel) (by decide +kernel)), tyX0_ok, nmX0, rfl, by decide +kernel⟩
theorem fp_RX0_30 : FP RX0 30 0 4 true (.array .long) := ⟨RX0, TX0, 13, tyX0, rfl, by decide, rfl, inW0, Or.inl (tw_in 311 (by decide +kernel) (by decide +kernel)), tyX0_ok, nmX0, rfl, by decide +kernel⟩
theorem fp_RX0_33 : FP RX0 33 0 5 false (.int) := ⟨RX0, TX0, 13, tyX0, rfl, by decide, rfl, inW0, Or.inl (tw_in 312 (by decide +kernel) (by decide +kernel)), tyX0_ok, nmX0, rfl, by decide +kernel⟩
theorem fp_RX0_36 : FP RX0 36 0 6 true (.array .boolean) := ⟨RX0, TX0, 13, tyX0, rfl, by decide, rfl, inW0, Or.inl (tw_in 313 (by decide +kernel) (by decide +kernel)), tyX0_ok, nmX0, rfl, by decide +kernel⟩
theorem fp_RX0_40 : FP RX0 40 0 7 true (.array .boolean) := ⟨RX0, TX0, 13, tyX0, rfl, by decide, rfl, inW0, Or.inl (tw_in 315 (by decide +kernel) (by decide +kernel)), tyX0_ok, nmX0, rfl, by decide +kernel⟩
theorem fp_RX0_43 : FP RX0 43 0 8 true (.array .long) := ⟨RX0, TX0, 13, tyX0, rfl, by decide, rfl, inW0, Or.inl (tw_in 317 (by decide +kernel) (by decide +kernel)), tyX0_ok, nmX0, rfl, by decide +kernel⟩
theorem fp_RX0_46 : FP RX0 46 0 9 true (.array .long) := ⟨RX0, TX0, 13, tyX0, rfl, by decide, rfl, inW0, Or.inl (tw_in 319 (by decide +kernel) (by decide +kernel)), tyX0_ok, nmX0, rfl, by decide +kernel⟩
theorem fp_RX0_49 : FP RX0 49 0 10 true (.array .int) := ⟨RX0, TX0, 13, tyX0, rfl, by decide, rfl, inW0, Or.inl (tw_in 321 (by decide +kernel) (by decide +kernel)), tyX0_ok, nmX0, rfl, by decide +kernel⟩
theorem fp_RX0_53 : FP RX0 53 0 11 false (.long) := ⟨RX0, TX0, 13, tyX0, rfl, by decide, rfl, inW0, Or.inl (tw_in 322 (by decide +kernel) (by decide +kernel)), tyX0_ok, nmX0, rfl, by decide +kernel⟩
theorem fp_RX0_57 : FP RX0 57 0 12 false (.long) := ⟨RX0, TX0, 13, tyX0, rfl, by decide, rfl, inW0, Or.inl (tw_in 323 (by decide +kernel) (by decide +kernel)), tyX0_ok, nmX0, rfl, by decide +kernel⟩
theorem fp_RX0_65 : FP RX0 65 1 0 false (.int) := ⟨RX1, TX1, 2, tyX1, rfl, by decide, rfl, inW1, Or.inr ⟨"OverflowGuards", tw_in 297 (by decide +kernel) (by decide +kernel)⟩, tyX1_ok, nmX1, rfl, by decide +kernel⟩
theorem fp_RX0_68 : FP RX0 68 6 0 false (.int) := ⟨RX6, TX6, 7, tyX6, rfl, by decide, rfl, inW6, Or.inr ⟨"OverflowGuards", tw_in 154 (by decide +kernel) (by decide +kernel)⟩, tyX6_ok, nmX6, rfl, by decide +kernel⟩
theorem fp_RX0_85 : FP RX0 85 3 0 true (.array .int) := ⟨RX3, TX3, 3, tyX3, rfl, by decide, rfl, inW3, Or.inr ⟨"OverflowGuards", tw_in 243 (by decide +kernel) (by decide +kernel)⟩, tyX3_ok, nmX3, rfl, by decide +kernel⟩
theorem fp_RX0_89 : FP RX0 89 3 1 true (.array .int) := ⟨RX3, TX3, 3, tyX3, rfl, by decide, rfl, inW3, Or.inr ⟨"OverflowGuards", tw_in 246 (by decide +kernel) (by decide +kernel)⟩, tyX3_ok, nmX3, rfl, by decide +kernel⟩
theorem fp_RX0_95 : FP RX0 95 6 1 true (.array .int) := ⟨RX6, TX6, 7, tyX6, rfl, by decide, rfl, inW6, Or.inr ⟨"OverflowGuards", tw_in 161 (by decide +kernel) (by decide +kernel)⟩, tyX6_ok, nmX6, rfl, by decide +kernel⟩
theorem fp_RX0_98 : FP RX0 98 6 3 true (.array .int) := ⟨RX6, TX6, 7, tyX6, rfl, by decide, rfl, inW6, Or.inr ⟨"OverflowGuards", tw_in 170 (by decide +kernel) (by decide +kernel)⟩, tyX6_ok, nmX6, rfl, by decide +kernel⟩
theorem fp_RX0_101 : FP RX0 101 6 4 true (.array .int) := ⟨RX6, TX6, 7, tyX6, rfl, by decide, rfl, inW6, Or.inr ⟨"OverflowGuards", tw_in 175 (by decide +kernel) (by decide +kernel)⟩, tyX6_ok, nmX6, rfl, by decide +kernel⟩
theorem fp_RX0_131 : FP RX0 131 6 2 true (.array .int) := ⟨RX6, TX6, 7, tyX6, rfl, by decide, rfl, inW6, Or.inr ⟨"OverflowGuards", tw_in 166 (by decide +kernel) (by decide +kernel)⟩, tyX6_ok, nmX6, rfl, by decide +kernel⟩
theorem fp_RX1_9 : FP RX1 9 1 0 false (.int) := ⟨RX1, TX1, 2, tyX1, rfl, by decide, rfl, inW1, Or.inl (tw_in 296 (by decide +kernel) (by decide +kernel)), tyX1_ok, nmX1, rfl, by decide +kernel⟩
theorem fp_RX1_15 : FP RX1 15 1 1 true (.array .int) := ⟨RX1, TX1, 2, tyX1, rfl, by decide, rfl, inW1, Or.inl (tw_in 299 (by decide +kernel) (by decide +kernel)), tyX1_ok, nmX1, rfl, by decide +kernel⟩
theorem fp_RX1_19 : FP RX1 19 6 5 true (.array .int) := ⟨RX6, TX6, 7, tyX6, rfl, by decide, rfl, inW6, Or.inr ⟨"OverflowGuards", tw_in 180 (by decide +kernel) (by decide +kernel)⟩, tyX6_ok, nmX6, rfl, by decide +kernel⟩
theorem fp_RX1_24 : FP RX1 24 6 1 true (.array .int) := ⟨RX6, TX6, 7, tyX6, rfl, by decide, rfl, inW6, Or.inr ⟨"OverflowGuards", tw_in 158 (by decide +kernel) (by decide +kernel)⟩, tyX6_ok, nmX6, rfl, by decide +kernel⟩
theorem fp_RX1_27 : FP RX1 27 6 2 true (.array .int) := ⟨RX6, TX6, 7, tyX6, rfl, by decide, rfl, inW6, Or.inr ⟨"OverflowGuards", tw_in 164 (by decide +kernel) (by decide +kernel)⟩, tyX6_ok, nmX6, rfl, by decide +kernel⟩
theorem fp_RX1_30 : FP RX1 30 6 6 true (.array .int) := ⟨RX6, TX6, 7, tyX6, rfl, by decide, rfl, inW6, Or.inr ⟨"OverflowGuards", tw_in 184 (by decide +kernel) (by decide +kernel)⟩, tyX6_ok, nmX6, rfl, by decide +kernel⟩
theorem fp_RX2_9 : FP RX2 9 2 0 false (.int) := ⟨RX2, TX2, 2, tyX2, rfl, by decide, rfl, inW2, Or.inl (tw_in 276 (by decide +kernel) (by decide +kernel)), tyX2_ok, nmX2, rfl, by decide +kernel⟩
theorem fp_RX2_17 : FP RX2 17 2 1 true (.array (.object "OverflowGuards$Situation")) := ⟨RX2, TX2, 2, tyX2, rfl, by decide, rfl, inW2, Or.inl (tw_in 278 (by decide +kernel) (by decide +kernel)), tyX2_ok, nmX2, rfl, by decide +kernel⟩
theorem fp_RX3_9 : FP RX3 9 3 0 true (.array .int) := ⟨RX3, TX3, 3, tyX3, rfl, by decide, rfl, inW3, Or.inl (tw_in 242 (by decide +kernel) (by decide +kernel)), tyX3_ok, nmX3, rfl, by decide +kernel⟩
theorem fp_RX3_15 : FP RX3 15 3 1 true (.array .int) := ⟨RX3, TX3, 3, tyX3, rfl, by decide, rfl, inW3, Or.inl (tw_in 245 (by decide +kernel) (by decide +kernel)), tyX3_ok, nmX3, rfl, by decide +kernel⟩
theorem fp_RX3_18 : FP RX3 18 3 2 true (.array .int) := ⟨RX3, TX3, 3, tyX3, rfl, by decide, rfl, inW3, Or.inl (tw_in 248 (by decide +kernel) (by decide +kernel)), tyX3_ok, nmX3, rfl, by decide +kernel⟩
theorem fp_RX4_9 : FP RX4 9 4 2 false (.int) := ⟨RX4, TX4, 6, tyX4, rfl, by decide, rfl, inW4, Or.inl (tw_in 211 (by decide +kernel) (by decide +kernel)), tyX4_ok, nmX4, rfl, by decide +kernel⟩
theorem fp_RX4_15 : FP RX4 15 4 3 false (.int) := ⟨RX4, TX4, 6, tyX4, rfl, by decide, rfl, inW4, Or.inl (tw_in 212 (by decide +kernel) (by decide +kernel)), tyX4_ok, nmX4, rfl, by decide +kernel⟩
theorem fp_RX4_18 : FP RX4 18 4 4 false (.int) := ⟨RX4, TX4, 6, tyX4, rfl, by decide, rfl, inW4, Or.inl (tw_in 213 (by decide +kernel) (by decide +kernel)), tyX4_ok, nmX4, rfl, by decide +kernel⟩
theorem fp_RX4_21 : FP RX4 21 4 5 true (.array .int) := ⟨RX4, TX4, 6, tyX4, rfl, by decide, rfl, inW4, Or.inl (tw_in 214 (by decide +kernel) (by decide +kernel)), tyX4_ok, nmX4, rfl, by decide +kernel⟩
theorem fp_RX4_25 : FP RX4 25 4 0 true (.object "OverflowGuards$Text") := ⟨RX4, TX4, 6, tyX4, rfl, by decide, rfl, inW4, Or.inl (tw_in 209 (by decide +kernel) (by decide +kernel)), tyX4_ok, nmX4, rfl, by decide +kernel⟩
theorem fp_RX4_29 : FP RX4 29 4 1 true (.object "OverflowGuards$Program") := ⟨RX4, TX4, 6, tyX4, rfl, by decide, rfl, inW4, Or.inl (tw_in 210 (by decide +kernel) (by decide +kernel)), tyX4_ok, nmX4, rfl, by decide +kernel⟩
theorem fp_RX4_33 : FP RX4 33 6 0 false (.int) := ⟨RX6, TX6, 7, tyX6, rfl, by decide, rfl, inW6, Or.inr ⟨"OverflowGuards", tw_in 152 (by decide +kernel) (by decide +kernel)⟩, tyX6_ok, nmX6, rfl, by decide +kernel⟩
theorem fp_RX4_38 : FP RX4 38 9 1 false (.int) := ⟨RX9, TX9, 2, tyX9, rfl, by decide, rfl, inW9, Or.inr ⟨"OverflowGuards", tw_in 138 (by decide +kernel) (by decide +kernel)⟩, tyX9_ok, nmX9, rfl, by decide +kernel⟩
theorem fp_RX5_9 : FP RX5 9 5 0 true (.array .int) := ⟨RX5, TX5, 3, tyX5, rfl, by decide, rfl, inW5, Or.inl (tw_in 359 (by decide +kernel) (by decide +kernel)), tyX5_ok, nmX5, rfl, by decide +kernel⟩
theorem fp_RX5_15 : FP RX5 15 5 1 true (.array .int) := ⟨RX5, TX5, 3, tyX5, rfl, by decide, rfl, inW5, Or.inl (tw_in 362 (by decide +kernel) (by decide +kernel)), tyX5_ok, nmX5, rfl, by decide +kernel⟩
theorem fp_RX5_18 : FP RX5 18 5 2 true (.array .boolean) := ⟨RX5, TX5, 3, tyX5, rfl, by decide, rfl, inW5, Or.inl (tw_in 364 (by decide +kernel) (by decide +kernel)), tyX5_ok, nmX5, rfl, by decide +kernel⟩
theorem fp_RX5_22 : FP RX5 22 6 0 false (.int) := ⟨RX6, TX6, 7, tyX6, rfl, by decide, rfl, inW6, Or.inr ⟨"OverflowGuards", tw_in 155 (by decide +kernel) (by decide +kernel)⟩, tyX6_ok, nmX6, rfl, by decide +kernel⟩
theorem fp_RX5_39 : FP RX5 39 0 6 true (.array .boolean) := ⟨RX0, TX0, 13, tyX0, rfl, by decide, rfl, inW0, Or.inr ⟨"OverflowGuards", tw_in 314 (by decide +kernel) (by decide +kernel)⟩, tyX0_ok, nmX0, rfl, by decide +kernel⟩
theorem fp_RX5_44 : FP RX5 44 0 7 true (.array .boolean) := ⟨RX0, TX0, 13, tyX0, rfl, by decide, rfl, inW0, Or.inr ⟨"OverflowGuards", tw_in 316 (by decide +kernel) (by decide +kernel)⟩, tyX0_ok, nmX0, rfl, by decide +kernel⟩
theorem fp_RX5_51 : FP RX5 51 6 1 true (.array .int) := ⟨RX6, TX6, 7, tyX6, rfl, by decide, rfl, inW6, Or.inr ⟨"OverflowGuards", tw_in 160 (by decide +kernel) (by decide +kernel)⟩, tyX6_ok, nmX6, rfl, by decide +kernel⟩
theorem fp_RX5_64 : FP RX5 64 6 2 true (.array .int) := ⟨RX6, TX6, 7, tyX6, rfl, by decide, rfl, inW6, Or.inr ⟨"OverflowGuards", tw_in 165 (by decide +kernel) (by decide +kernel)⟩, tyX6_ok, nmX6, rfl, by decide +kernel⟩
theorem fp_RX5_75 : FP RX5 75 6 3 true (.array .int) := ⟨RX6, TX6, 7, tyX6, rfl, by decide, rfl, inW6, Or.inr ⟨"OverflowGuards", tw_in 171 (by decide +kernel) (by decide +kernel)⟩, tyX6_ok, nmX6, rfl, by decide +kernel⟩
theorem fp_RX5_82 : FP RX5 82 6 4 true (.array .int) := ⟨RX6, TX6, 7, tyX6, rfl, by decide, rfl, inW6, Or.inr ⟨"OverflowGuards", tw_in 176 (by decide +kernel) (by decide +kernel)⟩, tyX6_ok, nmX6, rfl, by decide +kernel⟩
theorem fp_RX5_92 : FP RX5 92 6 6 true (.array .int) := ⟨RX6, TX6, 7, tyX6, rfl, by decide, rfl, inW6, Or.inr ⟨"OverflowGuards", tw_in 186 (by decide +kernel) (by decide +kernel)⟩, tyX6_ok, nmX6, rfl, by decide +kernel⟩
theorem fp_RX6_9 : FP RX6 9 6 0 false (.int) := ⟨RX6, TX6, 7, tyX6, rfl, by decide, rfl, inW6, Or.inl (tw_in 151 (by decide +kernel) (by decide +kernel)), tyX6_ok, nmX6, rfl, by decide +kernel⟩
theorem fp_RX6_15 : FP RX6 15 6 1 true (.array .int) := ⟨RX6, TX6, 7, tyX6, rfl, by decide, rfl, inW6, Or.inl (tw_in 157 (by decide +kernel) (by decide +kernel)), tyX6_ok, nmX6, rfl, by decide +kernel⟩
theorem fp_RX6_19 : FP RX6 19 6 2 true (.array .int) := ⟨RX6, TX6, 7, tyX6, rfl, by decide, rfl, inW6, Or.inl (tw_in 163 (by decide +kernel) (by decide +kernel)), tyX6_ok, nmX6, rfl, by decide +kernel⟩
theorem fp_RX6_22 : FP RX6 22 6 3 true (.array .int) := ⟨RX6, TX6, 7, tyX6, rfl, by decide, rfl, inW6, Or.inl (tw_in 169 (by decide +kernel) (by decide +kernel)), tyX6_ok, nmX6, rfl, by decide +kernel⟩
theorem fp_RX6_25 : FP RX6 25 6 4 true (.array .int) := ⟨RX6, TX6, 7, tyX6, rfl, by decide, rfl, inW6, Or.inl (tw_in 174 (by decide +kernel) (by decide +kernel)), tyX6_ok, nmX6, rfl, by decide +kernel⟩
theorem fp_RX6_28 : FP RX6 28 6 5 true (.array .int) := ⟨RX6, TX6, 7, tyX6, rfl, by decide, rfl, inW6, Or.inl (tw_in 179 (by decide +kernel) (by decide +kernel)), tyX6_ok, nmX6, rfl, by decide +kernel⟩
theorem fp_RX6_31 : FP RX6 31 6 6 true (.array .int) := ⟨RX6, TX6, 7, tyX6, rfl, by decide, rfl, inW6, Or.inl (tw_in 183 (by decide +kernel) (by decide +kernel)), tyX6_ok, nmX6, rfl, by decide +kernel⟩
theorem fp_RX7_12 : FP RX7 12 7 0 true (.object "OverflowGuards$Cursor") := ⟨RX7, TX7, 6, tyX7, rfl, by decide, rfl, inW7, Or.inl (tw_in 380 (by decide +kernel) (by decide +kernel)), tyX7_ok, nmX7, rfl, by decide +kernel⟩
theorem fp_RX7_18 : FP RX7 18 7 1 true (.array .long) := ⟨RX7, TX7, 6, tyX7, rfl, by decide, rfl, inW7, Or.inl (tw_in 381 (by decide +kernel) (by decide +kernel)), tyX7_ok, nmX7, rfl, by decide +kernel⟩
theorem fp_RX7_22 : FP RX7 22 7 2 false (.int) := ⟨RX7, TX7, 6, tyX7, rfl, by decide, rfl, inW7, Or.inl (tw_in 383 (by decide +kernel) (by decide +kernel)), tyX7_ok, nmX7, rfl, by decide +kernel⟩
theorem fp_RX7_26 : FP RX7 26 7 3 false (.int) := ⟨RX7, TX7, 6, tyX7, rfl, by decide, rfl, inW7, Or.inl (tw_in 385 (by decide +kernel) (by decide +kernel)), tyX7_ok, nmX7, rfl, by decide +kernel⟩
theorem fp_RX7_29 : FP RX7 29 7 4 false (.int) := ⟨RX7, TX7, 6, tyX7, rfl, by decide, rfl, inW7, Or.inl (tw_in 387 (by decide +kernel) (by decide +kernel)), tyX7_ok, nmX7, rfl, by decide +kernel⟩
theorem fp_RX7_32 : FP RX7 32 7 5 true (.array .boolean) := ⟨RX7, TX7, 6, tyX7, rfl, by decide, rfl, inW7, Or.inl (tw_in 389 (by decide +kernel) (by decide +kernel)), tyX7_ok, nmX7, rfl, by decide +kernel⟩
theorem fp_RX7_40 : FP RX7 40 6 0 false (.int) := ⟨RX6, TX6, 7, tyX6, rfl, by decide, rfl, inW6, Or.inr ⟨"OverflowGuards", tw_in 153 (by decide +kernel) (by decide +kernel)⟩, tyX6_ok, nmX6, rfl, by decide +kernel⟩
theorem fp_RX7_54 : FP RX7 54 1 0 false (.int) := ⟨RX1, TX1, 2, tyX1, rfl, by decide, rfl, inW1, Or.inr ⟨"OverflowGuards", tw_in 298 (by decide +kernel) (by decide +kernel)⟩, tyX1_ok, nmX1, rfl, by decide +kernel⟩
theorem fp_RX7_68 : FP RX7 68 5 0 true (.array .int) := ⟨RX5, TX5, 3, tyX5, rfl, by decide, rfl, inW5, Or.inr ⟨"OverflowGuards", tw_in 360 (by decide +kernel) (by decide +kernel)⟩, tyX5_ok, nmX5, rfl, by decide +kernel⟩
theorem fp_RX7_74 : FP RX7 74 6 1 true (.array .int) := ⟨RX6, TX6, 7, tyX6, rfl, by decide, rfl, inW6, Or.inr ⟨"OverflowGuards", tw_in 159 (by decide +kernel) (by decide +kernel)⟩, tyX6_ok, nmX6, rfl, by decide +kernel⟩
theorem fp_RX7_81 : FP RX7 81 3 2 true (.array .int) := ⟨RX3, TX3, 3, tyX3, rfl, by decide, rfl, inW3, Or.inr ⟨"OverflowGuards", tw_in 249 (by decide +kernel) (by decide +kernel)⟩, tyX3_ok, nmX3, rfl, by decide +kernel⟩
theorem fp_RX7_86 : FP RX7 86 6 2 true (.array .int) := ⟨RX6, TX6, 7, tyX6, rfl, by decide, rfl, inW6, Or.inr ⟨"OverflowGuards", tw_in 167 (by decide +kernel) (by decide +kernel)⟩, tyX6_ok, nmX6, rfl, by decide +kernel⟩
theorem fp_RX7_89 : FP RX7 89 6 5 true (.array .int) := ⟨RX6, TX6, 7, tyX6, rfl, by decide, rfl, inW6, Or.inr ⟨"OverflowGuards", tw_in 181 (by decide +kernel) (by decide +kernel)⟩, tyX6_ok, nmX6, rfl, by decide +kernel⟩
theorem fp_RX7_92 : FP RX7 92 6 6 true (.array .int) := ⟨RX6, TX6, 7, tyX6, rfl, by decide, rfl, inW6, Or.inr ⟨"OverflowGuards", tw_in 185 (by decide +kernel) (by decide +kernel)⟩, tyX6_ok, nmX6, rfl, by decide +kernel⟩
theorem fp_RX7_107 : FP RX7 107 6 3 true (.array .int) := ⟨RX6, TX6, 7, tyX6, rfl, by decide, rfl, inW6, Or.inr ⟨"OverflowGuards", tw_in 172 (by decide +kernel) (by decide +kernel)⟩, tyX6_ok, nmX6, rfl, by decide +kernel⟩
theorem fp_RX7_110 : FP RX7 110 6 4 true (.array .int) := ⟨RX6, TX6, 7, tyX6, rfl, by decide, rfl, inW6, Or.inr ⟨"OverflowGuards", tw_in 177 (by decide +kernel) (by decide +kernel)⟩, tyX6_ok, nmX6, rfl, by decide +kernel⟩
theorem fp_RX8_10 : FP RX8 10 8 0 true (.object "OverflowGuards$Program") := ⟨RX8, TX8, 2, tyX8, rfl, by decide, rfl, inW8, Or.inl (tw_in 258 (by decide +kernel) (by decide +kernel)), tyX8_ok, nmX8, rfl, by decide +kernel⟩
theorem fp_RX8_19 : FP RX8 19 8 1 true (.object "OverflowGuards$Inputs") := ⟨RX8, TX8, 2, tyX8, rfl, by decide, rfl, inW8, Or.inl (tw_in 260 (by decide +kernel) (by decide +kernel)), tyX8_ok, nmX8, rfl, by decide +kernel⟩
theorem fp_RX9_9 : FP RX9 9 9 0 true (.array .int) := ⟨RX9, TX9, 2, tyX9, rfl, by decide, rfl, inW9, Or.inl (tw_in 135 (by decide +kernel) (by decide +kernel)), tyX9_ok, nmX9, rfl, by decide +kernel⟩
theorem fp_RX9_15 : FP RX9 15 9 1 false (.int) := ⟨RX9, TX9, 2, tyX9, rfl, by decide, rfl, inW9, Or.inl (tw_in 136 (by decide +kernel) (by decide +kernel)), tyX9_ok, nmX9, rfl, by decide +kernel⟩
theorem fp_RX11_7 : FP RX11 7 11 0 true (.array .int) := ⟨RX11, TX11, 33, tyX11, rfl, by decide, rfl, inW11, Or.inl (tw_in 1040 (by decide +kernel) (by decide +kernel)), tyX11_ok, nmX11, rfl, by decide +kernel⟩
theorem fp_RX11_13 : FP RX11 13 11 1 true (.array .int) := ⟨RX11, TX11, 33, tyX11, rfl, by decide, rfl, inW11, Or.inl (tw_in 1041 (by decide +kernel) (by decide +kernel)), tyX11_ok, nmX11, rfl, by decide +kernel⟩
theorem fp_RX11_16 : FP RX11 16 11 4 true (.array .int) := ⟨RX11, TX11, 33, tyX11, rfl, by decide, rfl, inW11, Or.inl (tw_in 1044 (by decide +kernel) (by decide +kernel)), tyX11_ok, nmX11, rfl, by decide +kernel⟩
theorem fp_RX11_19 : FP RX11 19 11 7 true (.array .int) := ⟨RX11, TX11, 33, tyX11, rfl, by decide, rfl, inW11, Or.inl (tw_in 1047 (by decide +kernel) (by decide +kernel)), tyX11_ok, nmX11, rfl, by decide +kernel⟩
theorem fp_RX11_22 : FP RX11 22 11 10 true (.array .int) := ⟨RX11, TX11, 33, tyX11, rfl, by decide, rfl, inW11, Or.inl (tw_in 1050 (by decide +kernel) (by decide +kernel)), tyX11_ok, nmX11, rfl, by decide +kernel⟩
theorem fp_RX11_25 : FP RX11 25 11 11 true (.array .int) := ⟨RX11, TX11, 33, tyX11, rfl, by decide, rfl, inW11, Or.inl (tw_in 1051 (by decide +kernel) (by decide +kernel)), tyX11_ok, nmX11, rfl, by decide +kernel⟩
theorem fp_RX11_28 : FP RX11 28 11 12 true (.array .int) := ⟨RX11, TX11, 33, tyX11, rfl, by decide, rfl, inW11, Or.inl (tw_in 1052 (by decide +kernel) (by decide +kernel)), tyX11_ok, nmX11, rfl, by decide +kernel⟩
theorem fp_RX11_31 : FP RX11 31 11 15 true (.array .int) := ⟨RX11, TX11, 33, tyX11, rfl, by decide, rfl, inW11, Or.inl (tw_in 1055 (by decide +kernel) (by decide +kernel)), tyX11_ok, nmX11, rfl, by decide +kernel⟩
theorem fp_RX11_34 : FP RX11 34 11 16 true (.array .long) := ⟨RX11, TX11, 33, tyX11, rfl, by decide, rfl, inW11, Or.inl (tw_in 1056 (by decide +kernel) (by decide +kernel)), tyX11_ok, nmX11, rfl, by decide +kernel⟩
theorem fp_RX11_38 : FP RX11 38 11 17 true (.array .long) := ⟨RX11, TX11, 33, tyX11, rfl, by decide, rfl, inW11, Or.inl (tw_in 1057 (by decide +kernel) (by decide +kernel)), tyX11_ok, nmX11, rfl, by decide +kernel⟩
theorem fp_RX11_41 : FP RX11 41 11 18 true (.array .boolean) := ⟨RX11, TX11, 33, tyX11, rfl, by decide, rfl, inW11, Or.inl (tw_in 1058 (by decide +kernel) (by decide +kernel)), tyX11_ok, nmX11, rfl, by decide +kernel⟩
theorem fp_RX11_45 : FP RX11 45 11 19 true (.array .boolean) := ⟨RX11, TX11, 33, tyX11, rfl, by decide, rfl, inW11, Or.inl (tw_in 1059 (by decide +kernel) (by decide +kernel)), tyX11_ok, nmX11, rfl, by decide +kernel⟩
theorem fp_RX11_48 : FP RX11 48 11 20 true (.array .boolean) := ⟨RX11, TX11, 33, tyX11, rfl, by decide, rfl, inW11, Or.inl (tw_in 1060 (by decide +kernel) (by decide +kernel)), tyX11_ok, nmX11, rfl, by decide +kernel⟩
theorem fp_RX11_51 : FP RX11 51 11 21 true (.array .boolean) := ⟨RX11, TX11, 33, tyX11, rfl, by decide, rfl, inW11, Or.inl (tw_in 1061 (by decide +kernel) (by decide +kernel)), tyX11_ok, nmX11, rfl, by decide +kernel⟩
theorem fp_RX11_54 : FP RX11 54 11 22 true (.array .long) := ⟨RX11, TX11, 33, tyX11, rfl, by decide, rfl, inW11, Or.inl (tw_in 1062 (by decide +kernel) (by decide +kernel)), tyX11_ok, nmX11, rfl, by decide +kernel⟩
theorem fp_RX11_57 : FP RX11 57 11 23 true (.array .long) := ⟨RX11, TX11, 33, tyX11, rfl, by decide, rfl, inW11, Or.inl (tw_in 1063 (by decide +kernel) (by decide +kernel)), tyX11_ok, nmX11, rfl, by decide +kernel⟩
theorem fp_RX11_60 : FP RX11 60 11 25 true (.array .int) := ⟨RX11, TX11, 33, tyX11, rfl, by decide, rfl, inW11, Or.inl (tw_in 1065 (by decide +kernel) (by decide +kernel)), tyX11_ok, nmX11, rfl, by decide +kernel⟩
theorem fp_RX11_63 : FP RX11 63 11 26 true (.array .boolean) := ⟨RX11, TX11, 33, tyX11, rfl, by decide, rfl, inW11, Or.inl (tw_in 1066 (by decide +kernel) (by decide +kernel)), tyX11_ok, nmX11, rfl, by decide +kernel⟩
theorem fp_RX11_66 : FP RX11 66 11 27 true (.array .int) := ⟨RX11, TX11, 33, tyX11, rfl, by decide, rfl, inW11, Or.inl (tw_in 1067 (by decide +kernel) (by decide +kernel)), tyX11_ok, nmX11, rfl, by decide +kernel⟩
theorem fp_RX11_69 : FP RX11 69 11 28 true (.array .long) := ⟨RX11, TX11, 33, tyX11, rfl, by decide, rfl, inW11, Or.inl (tw_in 1068 (by decide +kernel) (by decide +kernel)), tyX11_ok, nmX11, rfl, by decide +kernel⟩
theorem fp_RX11_72 : FP RX11 72 11 29 true (.array .boolean) := ⟨RX11, TX11, 33, tyX11, rfl, by decide, rfl, inW11, Or.inl (tw_in 1069 (by decide +kernel) (by decide +kernel)), tyX11_ok, nmX11, rfl, by decide +kernel⟩
theorem fp_RX11_75 : FP RX11 75 11 3 false (.int) := ⟨RX11, TX11, 33, tyX11, rfl, by decide, rfl, inW11, Or.inl (tw_in 1043 (by decide +kernel) (by decide +kernel)), tyX11_ok, nmX11, rfl, by decide +kernel⟩
theorem fp_RX11_79 : FP RX11 79 11 2 false (.int) := ⟨RX11, TX11, 33, tyX11, rfl, by decide, rfl, inW11, Or.inl (tw_in 1042 (by decide +kernel) (by decide +kernel)), tyX11_ok, nmX11, rfl, by decide +kernel⟩
theorem fp_RX11_98 : FP RX11 98 11 5 false (.int) := ⟨RX11, TX11, 33, tyX11, rfl, by decide, rfl, inW11, Or.inl (tw_in 1045 (by decide +kernel) (by decide +kernel)), tyX11_ok, nmX11, rfl, by decide +kernel⟩
theorem fp_RX11_105 : FP RX11 105 11 6 false (.int) := ⟨RX11, TX11, 33, tyX11, rfl, by decide, rfl, inW11, Or.inl (tw_in 1046 (by decide +kernel) (by decide +kernel)), tyX11_ok, nmX11, rfl, by decide +kernel⟩
theorem fp_RX11_120 : FP RX11 120 11 8 false (.int) := ⟨RX11, TX11, 33, tyX11, rfl, by decide, rfl, inW11, Or.inl (tw_in 1048 (by decide +kernel) (by decide +kernel)), tyX11_ok, nmX11, rfl, by decide +kernel⟩
theorem fp_RX11_139 : FP RX11 139 11 9 false (.int) := ⟨RX11, TX11, 33, tyX11, rfl, by decide, rfl, inW11, Or.inl (tw_in 1049 (by decide +kernel) (by decide +kernel)), tyX11_ok, nmX11, rfl, by decide +kernel⟩
theorem fp_RX11_174 : FP RX11 174 11 13 false (.int) := ⟨RX11, TX11, 33, tyX11, rfl, by decide, rfl, inW11, Or.inl (tw_in 1053 (by decide +kernel) (by decide +kernel)), tyX11_ok, nmX11, rfl, by decide +kernel⟩
theorem fp_RX11_177 : FP RX11 177 11 14 false (.int) := ⟨RX11, TX11, 33, tyX11, rfl, by decide, rfl, inW11, Or.inl (tw_in 1054 (by decide +kernel) (by decide +kernel)), tyX11_ok, nmX11, rfl, by decide +kernel⟩
theorem fp_RX11_201 : FP RX11 201 11 24 false (.boolean) := ⟨RX11, TX11, 33, tyX11, rfl, by decide, rfl, inW11, Or.inl (tw_in 1064 (by decide +kernel) (by decide +kernel)), tyX11_ok, nmX11, rfl, by decide +kernel⟩
theorem fp_RX11_242 : FP RX11 242 11 31 false (.int) := ⟨RX11, TX11, 33, tyX11, rfl, by decide, rfl, inW11, Or.inl (tw_in 1071 (by decide +kernel) (by decide +kernel)), tyX11_ok, nmX11, rfl, by decide +kernel⟩
theorem fp_RX11_249 : FP RX11 249 11 30 false (.int) := ⟨RX11, TX11, 33, tyX11, rfl, by decide, rfl, inW11, Or.inl (tw_in 1070 (by decide +kernel) (by decide +kernel)), tyX11_ok, nmX11, rfl, by decide +kernel⟩
theorem fp_RX11_252 : FP RX11 252 11 32 false (.int) := ⟨RX11, TX11, 33, tyX11, rfl, by decide, rfl, inW11, Or.inl (tw_in 1072 (by decide +kernel) (by decide +kernel)), tyX11_ok, nmX11, rfl, by decide +kernel⟩
theorem fk_RX10_10 : ∀ C T N, vwCl[10]? = some (C, T, N) → Cond.fieldLink RX10 10 C (T 0).2.1 (T 0).2.2.1 ∈ TW := fun C T N h => by cases h; exact tw_in 405 (by decide +kernel) (by decide +kernel)
theorem fk_RX10_19 : ∀ C T N, vwCl[10]? = some (C, T, N) → Cond.fieldLink RX10 19 C (T 1).2.1 (T 1).2.2.1 ∈ TW := fun C T N h => by cases h; exact tw_in 406 (by decide +kernel) (by decide +kernel)
theorem fk_RX10_28 : ∀ C T N, vwCl[10]? = some (C, T, N) → Cond.fieldLink RX10 28 C (T 2).2.1 (T 2).2.2.1 ∈ TW := fun C T N h => by cases h; exact tw_in 407 (by decide +kernel) (by decide +kernel)
theorem fk_RX10_35 : ∀ C T N, vwCl[10]? = some (C, T, N) → Cond.fieldLink RX10 35 C (T 3).2.1 (T 3).2.2.1 ∈ TW := fun C T N h => by cases h; exact tw_in 408 (by decide +kernel) (by decide +kernel)
theorem fk_RX10_42 : ∀ C T N, vwCl[10]? = some (C, T, N) → Cond.fieldLink RX10 42 C (T 4).2.1 (T 4).2.2.1 ∈ TW := fun C T N h => by cases h; exact tw_in 409 (by decide +kernel) (by decide +kernel)
theorem fk_RX10_49 : ∀ C T N, vwCl[10]? = some (C, T, N) → Cond.fieldLink RX10 49 C (T 5).2.1 (T 5).2.2.1 ∈ TW := fun C T N h => by cases h; exact tw_in 410 (by decide +kernel) (by decide +kernel)
theorem fk_RX10_56 : ∀ C T N, vwCl[10]? = some (C, T, N) → Cond.fieldLink RX10 56 C (T 6).2.1 (T 6).2.2.1 ∈ TW := fun C T N h => by cases h; exact tw_in 411 (by decide +kernel) (by decide +kernel)
theorem fk_RX10_63 : ∀ C T N, vwCl[10]? = some (C, T, N) → Cond.fieldLink RX10 63 C (T 7).2.1 (T 7).2.2.1 ∈ TW := fun C T N h => by cases h; exact tw_in 412 (by decide +kernel) (by decide +kernel)
theorem fk_RX10_67 : ∀ C T N, vwCl[10]? = some (C, T, N) → Cond.fieldLink RX10 67 C (T 8).2.1 (T 8).2.2.1 ∈ TW := fun C T N h => by cases h; exact tw_in 413 (by decide +kernel) (by decide +kernel)
theorem fk_RX10_80 : ∀ C T N, vwCl[10]? = some (C, T, N) → Cond.fieldLink RX10 80 C (T 11).2.1 (T 11).2.2.1 ∈ TW := fun C T N h => by cases h; exact tw_in 416 (by decide +kernel) (by decide +kernel)
theorem fk_RX10_84 : ∀ C T N, vwCl[10]? = some (C, T, N) → Cond.fieldLink RX10 84 C (T 12).2.1 (T 12).2.2.1 ∈ TW := fun C T N h => by cases h; exact tw_in 417 (by decide +kernel) (by decide +kernel)
theorem fk_RX10_87 : ∀ C T N, vwCl[10]? = some (C, T, N) → Cond.fieldLink RX10 87 C (T 13).2.1 (T 13).2.2.1 ∈ TW := fun C T N h => by cases h; exact tw_in 418 (by decide +kernel) (by decide +kernel)
theorem fk_RX0_12 : ∀ C T N, vwCl[0]? = some (C, T, N) → Cond.fieldLink RX0 12 C (T 0).2.1 (T 0).2.2.1 ∈ TW := fun C T N h => by cases h; exact tw_in 305 (by decide +kernel) (by decide +kernel)
theorem fk_RX0_26 : ∀ C T N, vwCl[0]? = some (C, T, N) → Cond.fieldLink RX0 26 C (T 3).2.1 (T 3).2.2.1 ∈ TW := fun C T N h => by cases h; exact tw_in 310 (by decide +kernel) (by decide +kernel)
theorem fk_RX0_30 : ∀ C T N, vwCl[0]? = some (C, T, N) → Cond.fieldLink RX0 30 C (T 4).2.1 (T 4).2.2.1 ∈ TW := fun C T N h => by cases h; exact tw_in 311 (by decide +kernel) (by decide +kernel)
theorem fk_RX0_36 : ∀ C T N, vwCl[0]? = some (C, T, N) → Cond.fieldLink RX0 36 C (T 6).2.1 (T 6).2.2.1 ∈ TW := fun C T N h => by cases h; exact tw_in 313 (by decide +kernel) (by decide +kernel)
theorem fk_RX0_40 : ∀ C T N, vwCl[0]? = some (C, T, N) → Cond.fieldLink RX0 40 C (T 7).2.1 (T 7).2.2.1 ∈ TW := fun C T N h => by cases h; exact tw_in 315 (by decide +kernel) (by decide +kernel)
theorem fk_RX0_43 : ∀ C T N, vwCl[0]? = some (C, T, N) → Cond.fieldLink RX0 43 C (T 8).2.1 (T 8).2.2.1 ∈ TW := fun C T N h => by cases h; exact tw_in 317 (by decide +kernel) (by decide +kernel)
theorem fk_RX0_46 : ∀ C T N, vwCl[0]? = some (C, T, N) → Cond.fieldLink RX0 46 C (T 9).2.1 (T 9).2.2.1 ∈ TW := fun C T N h => by cases h; exact tw_in 319 (by decide +kernel) (by decide +kernel)
theorem fk_RX0_49 : ∀ C T N, vwCl[0]? = some (C, T, N) → Cond.fieldLink RX0 49 C (T 10).2.1 (T 10).2.2.1 ∈ TW := fun C T N h => by cases h; exact tw_in 321 (by decide +kernel) (by decide +kernel)
theorem fk_RX1_15 : ∀ C T N, vwCl[1]? = some (C, T, N) → Cond.fieldLink RX1 15 C (T 1).2.1 (T 1).2.2.1 ∈ TW := fun C T N h => by cases h; exact tw_in 299 (by decide +kernel) (by decide +kernel)
theorem fk_RX2_17 : ∀ C T N, vwCl[2]? = some (C, T, N) → Cond.fieldLink RX2 17 C (T 1).2.1 (T 1).2.2.1 ∈ TW := fun C T N h => by cases h; exact tw_in 278 (by decide +kernel) (by decide +kernel)
theorem fk_RX3_9 : ∀ C T N, vwCl[3]? = some (C, T, N) → Cond.fieldLink RX3 9 C (T 0).2.1 (T 0).2.2.1 ∈ TW := fun C T N h => by cases h; exact tw_in 242 (by decide +kernel) (by decide +kernel)
theorem fk_RX3_15 : ∀ C T N, vwCl[3]? = some (C, T, N) → Cond.fieldLink RX3 15 C (T 1).2.1 (T 1).2.2.1 ∈ TW := fun C T N h => by cases h; exact tw_in 245 (by decide +kernel) (by decide +kernel)
theorem fk_RX3_18 : ∀ C T N, vwCl[3]? = some (C, T, N) → Cond.fieldLink RX3 18 C (T 2).2.1 (T 2).2.2.1 ∈ TW := fun C T N h => by cases h; exact tw_in 248 (by decide +kernel) (by decide +kernel)
theorem fk_RX4_21 : ∀ C T N, vwCl[4]? = some (C, T, N) → Cond.fieldLink RX4 21 C (T 5).2.1 (T 5).2.2.1 ∈ TW := fun C T N h => by cases h; exact tw_in 214 (by decide +kernel) (by decide +kernel)
theorem fk_RX4_25 : ∀ C T N, vwCl[4]? = some (C, T, N) → Cond.fieldLink RX4 25 C (T 0).2.1 (T 0).2.2.1 ∈ TW := fun C T N h => by cases h; exact tw_in 209 (by decide +kernel) (by decide +kernel)
theorem fk_RX4_29 : ∀ C T N, vwCl[4]? = some (C, T, N) → Cond.fieldLink RX4 29 C (T 1).2.1 (T 1).2.2.1 ∈ TW := fun C T N h => by cases h; exact tw_in 210 (by decide +kernel) (by decide +kernel)
theorem fk_RX5_9 : ∀ C T N, vwCl[5]? = some (C, T, N) → Cond.fieldLink RX5 9 C (T 0).2.1 (T 0).2.2.1 ∈ TW := fun C T N h => by cases h; exact tw_in 359 (by decide +kernel) (by decide +kernel)
theorem fk_RX5_15 : ∀ C T N, vwCl[5]? = some (C, T, N) → Cond.fieldLink RX5 15 C (T 1).2.1 (T 1).2.2.1 ∈ TW := fun C T N h => by cases h; exact tw_in 362 (by decide +kernel) (by decide +kernel)
theorem fk_RX5_18 : ∀ C T N, vwCl[5]? = some (C, T, N) → Cond.fieldLink RX5 18 C (T 2).2.1 (T 2).2.2.1 ∈ TW := fun C T N h => by cases h; exact tw_in 364 (by decide +kernel) (by decide +kernel)
theorem fk_RX6_15 : ∀ C T N, vwCl[6]? = some (C, T, N) → Cond.fieldLink RX6 15 C (T 1).2.1 (T 1).2.2.1 ∈ TW := fun C T N h => by cases h; exact tw_in 157 (by decide +kernel) (by decide +kernel)
theorem fk_RX6_19 : ∀ C T N, vwCl[6]? = some (C, T, N) → Cond.fieldLink RX6 19 C (T 2).2.1 (T 2).2.2.1 ∈ TW := fun C T N h => by cases h; exact tw_in 163 (by decide +kernel) (by decide +kernel)
theorem fk_RX6_22 : ∀ C T N, vwCl[6]? = some (C, T, N) → Cond.fieldLink RX6 22 C (T 3).2.1 (T 3).2.2.1 ∈ TW := fun C T N h => by cases h; exact tw_in 169 (by decide +kernel) (by decide +kernel)
theorem fk_RX6_25 : ∀ C T N, vwCl[6]? = some (C, T, N) → Cond.fieldLink RX6 25 C (T 4).2.1 (T 4).2.2.1 ∈ TW := fun C T N h => by cases h; exact tw_in 174 (by decide +kernel) (by decide +kernel)
theorem fk_RX6_28 : ∀ C T N, vwCl[6]? = some (C, T, N) → Cond.fieldLink RX6 28 C (T 5).2.1 (T 5).2.2.1 ∈ TW := fun C T N h => by cases h; exact tw_in 179 (by decide +kernel) (by decide +kernel)
theorem fk_RX6_31 : ∀ C T N, vwCl[6]? = some (C, T, N) → Cond.fieldLink RX6 31 C (T 6).2.1 (T 6).2.2.1 ∈ TW := fun C T N h => by cases h; exact tw_in 183 (by decide +kernel) (by decide +kernel)
theorem fk_RX7_12 : ∀ C T N, vwCl[7]? = some (C, T, N) → Cond.fieldLink RX7 12 C (T 0).2.1 (T 0).2.2.1 ∈ TW := fun C T N h => by cases h; exact tw_in 380 (by decide +kernel) (by decide +kernel)
theorem fk_RX7_18 : ∀ C T N, vwCl[7]? = some (C, T, N) → Cond.fieldLink RX7 18 C (T 1).2.1 (T 1).2.2.1 ∈ TW := fun C T N h => by cases h; exact tw_in 381 (by decide +kernel) (by decide +kernel)
theorem fk_RX7_32 : ∀ C T N, vwCl[7]? = some (C, T, N) → Cond.fieldLink RX7 32 C (T 5).2.1 (T 5).2.2.1 ∈ TW := fun C T N h => by cases h; exact tw_in 389 (by decide +kernel) (by decide +kernel)
theorem fk_RX8_10 : ∀ C T N, vwCl[8]? = some (C, T, N) → Cond.fieldLink RX8 10 C (T 0).2.1 (T 0).2.2.1 ∈ TW := fun C T N h => by cases h; exact tw_in 258 (by decide +kernel) (by decide +kernel)
theorem fk_RX8_19 : ∀ C T N, vwCl[8]? = some (C, T, N) → Cond.fieldLink RX8 19 C (T 1).2.1 (T 1).2.2.1 ∈ TW := fun C T N h => by cases h; exact tw_in 260 (by decide +kernel) (by decide +kernel)
theorem fk_RX9_9 : ∀ C T N, vwCl[9]? = some (C, T, N) → Cond.fieldLink RX9 9 C (T 0).2.1 (T 0).2.2.1 ∈ TW := fun C T N h => by cases h; exact tw_in 135 (by decide +kernel) (by decide +kernel)
theorem fk_RX11_7 : ∀ C T N, vwCl[11]? = some (C, T, N) → Cond.fieldLink RX11 7 C (T 0).2.1 (T 0).2.2.1 ∈ TW := fun C T N h => by cases h; exact tw_in 1040 (by decide +kernel) (by decide +kernel)
theorem fk_RX11_13 : ∀ C T N, vwCl[11]? = some (C, T, N) → Cond.fieldLink RX11 13 C (T 1).2.1 (T 1).2.2.1 ∈ TW := fun C T N h => by cases h; exact tw_in 1041 (by decide +kernel) (by decide +kernel)
theorem fk_RX11_16 : ∀ C T N, vwCl[11]? = some (C, T, N) → Cond.fieldLink RX11 16 C (T 4).2.1 (T 4).2.2.1 ∈ TW := fun C T N h => by cases h; exact tw_in 1044 (by decide +kernel) (by decide +kernel)
theorem fk_RX11_19 : ∀ C T N, vwCl[11]? = some (C, T, N) → Cond.fieldLink RX11 19 C (T 7).2.1 (T 7).2.2.1 ∈ TW := fun C T N h => by cases h; exact tw_in 1047 (by decide +kernel) (by decide +kernel)
theorem fk_RX11_22 : ∀ C T N, vwCl[11]? = some (C, T, N) → Cond.fieldLink RX11 22 C (T 10).2.1 (T 10).2.2.1 ∈ TW := fun C T N h => by cases h; exact tw_in 1050 (by decide +kernel) (by decide +kernel)
theorem fk_RX11_25 : ∀ C T N, vwCl[11]? = some (C, T, N) → Cond.fieldLink RX11 25 C (T 11).2.1 (T 11).2.2.1 ∈ TW := fun C T N h => by cases h; exact tw_in 1051 (by decide +kernel) (by decide +kernel)
theorem fk_RX11_28 : ∀ C T N, vwCl[11]? = some (C, T, N) → Cond.fieldLink RX11 28 C (T 12).2.1 (T 12).2.2.1 ∈ TW := fun C T N h => by cases h; exact tw_in 1052 (by decide +kernel) (by decide +kernel)
theorem fk_RX11_31 : ∀ C T N, vwCl[11]? = some (C, T, N) → Cond.fieldLink RX11 31 C (T 15).2.1 (T 15).2.2.1 ∈ TW := fun C T N h => by cases h; exact tw_in 1055 (by decide +kernel) (by decide +kernel)
theorem fk_RX11_34 : ∀ C T N, vwCl[11]? = some (C, T, N) → Cond.fieldLink RX11 34 C (T 16).2.1 (T 16).2.2.1 ∈ TW := fun C T N h => by cases h; exact tw_in 1056 (by decide +kernel) (by decide +kernel)
theorem fk_RX11_38 : ∀ C T N, vwCl[11]? = some (C, T, N) → Cond.fieldLink RX11 38 C (T 17).2.1 (T 17).2.2.1 ∈ TW := fun C T N h => by cases h; exact tw_in 1057 (by decide +kernel) (by decide +kernel)
theorem fk_RX11_41 : ∀ C T N, vwCl[11]? = some (C, T, N) → Cond.fieldLink RX11 41 C (T 18).2.1 (T 18).2.2.1 ∈ TW := fun C T N h => by cases h; exact tw_in 1058 (by decide +kernel) (by decide +kernel)
theorem fk_RX11_45 : ∀ C T N, vwCl[11]? = some (C, T, N) → Cond.fieldLink RX11 45 C (T 19).2.1 (T 19).2.2.1 ∈ TW := fun C T N h => by cases h; exact tw_in 1059 (by decide +kernel) (by decide +kernel)
theorem fk_RX11_48 : ∀ C T N, vwCl[11]? = some (C, T, N) → Cond.fieldLink RX11 48 C (T 20).2.1 (T 20).2.2.1 ∈ TW := fun C T N h => by cases h; exact tw_in 1060 (by decide +kernel) (by decide +kernel)
theorem fk_RX11_51 : ∀ C T N, vwCl[11]? = some (C, T, N) → Cond.fieldLink RX11 51 C (T 21).2.1 (T 21).2.2.1 ∈ TW := fun C T N h => by cases h; exact tw_in 1061 (by decide +kernel) (by decide +kernel)
theorem fk_RX11_54 : ∀ C T N, vwCl[11]? = some (C, T, N) → Cond.fieldLink RX11 54 C (T 22).2.1 (T 22).2.2.1 ∈ TW := fun C T N h => by cases h; exact tw_in 1062 (by decide +kernel) (by decide +kernel)
theorem fk_RX11_57 : ∀ C T N, vwCl[11]? = some (C, T, N) → Cond.fieldLink RX11 57 C (T 23).2.1 (T 23).2.2.1 ∈ TW := fun C T N h => by cases h; exact tw_in 1063 (by decide +kernel) (by decide +kernel)
theorem fk_RX11_60 : ∀ C T N, vwCl[11]? = some (C, T, N) → Cond.fieldLink RX11 60 C (T 25).2.1 (T 25).2.2.1 ∈ TW := fun C T N h => by cases h; exact tw_in 1065 (by decide +kernel) (by decide +kernel)
theorem fk_RX11_63 : ∀ C T N, vwCl[11]? = some (C, T, N) → Cond.fieldLink RX11 63 C (T 26).2.1 (T 26).2.2.1 ∈ TW := fun C T N h => by cases h; exact tw_in 1066 (by decide +kernel) (by decide +kernel)
theorem fk_RX11_66 : ∀ C T N, vwCl[11]? = some (C, T, N) → Cond.fieldLink RX11 66 C (T 27).2.1 (T 27).2.2.1 ∈ TW := fun C T N h => by cases h; exact tw_in 1067 (by decide +kernel) (by decide +kernel)
theorem fk_RX11_69 : ∀ C T N, vwCl[11]? = some (C, T, N) → Cond.fieldLink RX11 69 C (T 28).2.1 (T 28).2.2.1 ∈ TW := fun C T N h => by cases h; exact tw_in 1068 (by decide +kernel) (by decide +kernel)
theorem fk_RX11_72 : ∀ C T N, vwCl[11]? = some (C, T, N) → Cond.fieldLink RX11 72 C (T 29).2.1 (T 29).2.2.1 ∈ TW := fun C T N h => by cases h; exact tw_in 1069 (by decide +kernel) (by decide +kernel)
abbrev mL_append : MI := (yL_append, cL_append, 4, some .int, { frames := 7, cells := 1, slots := 6, locals := 111 })
abbrev mL_coveredBy : MI := (yL_coveredBy, cL_coveredBy, 4, some .int, { frames := 8, cells := 1, slots := 6, locals := 189 })
abbrev mL_failingInput : MI := (yL_failingInput, cL_failingInput, 4, some .int, { frames := 8, cells := 1, slots := 6, locals := 200 })
abbrev mL_finalRange : MI := (yL_finalRange, cL_finalRange, 5, some .int, { frames := 8, cells := 1, slots := 6, locals := 190 })
abbrev mL_input : MI := (yL_input, cL_input, 5, some .int, { frames := 8, cells := 1, slots := 6, locals := 132 })
abbrev mL_instruction : MI := (yL_instruction, cL_instruction, 5, some .int, { frames := 8, cells := 1, slots := 6, locals := 133 })
abbrev mL_openWith : MI := (yL_openWith, cL_openWith, 6, some .int, { frames := 8, cells := 2, slots := 12, locals := 194 })
abbrev mL_operand : MI := (yL_operand, cL_operand, 5, some .int, { frames := 8, cells := 1, slots := 6, locals := 134 })
abbrev mL_range : MI := (yL_range, cL_range, 5, some .int, { frames := 8, cells := 2, slots := 12, locals := 190 })
abbrev mL_remove : MI := (yL_remove, cL_remove, 4, some .int, { frames := 8, cells := 2, slots := 12, locals := 144 })
abbrev mL_result : MI := (yL_result, cL_result, 5, some .int, { frames := 8, cells := 1, slots := 6, locals := 210 })
abbrev mL_safePower : MI := (yL_safePower, cL_safePower, 4, some .int, { frames := 8, cells := 1, slots := 6, locals := 196 })
abbrev mL_setInput : MI := (yL_setInput, cL_setInput, 5, some .int, { frames := 8, cells := 1, slots := 6, locals := 147 })
abbrev mL_setRange : MI := (yL_setRange, cL_setRange, 6, some .int, { frames := 8, cells := 2, slots := 12, locals := 146 })
abbrev mL_state : MI := (yL_state, cL_state, 4, some .int, { frames := 8, cells := 1, slots := 6, locals := 189 })
abbrev mL_states : MI := (yL_states, cL_states, 4, some .int, { frames := 7, cells := 1, slots := 6, locals := 191 })
abbrev mL_undo : MI := (yL_undo, cL_undo, 3, some .int, { frames := 7, cells := 1, slots := 6, locals := 123 })
abbrev mX0_assign : MI := (yX0_assign, cX0_assign, 7, none, { frames := 0, cells := 0, slots := 0, locals := 0 })
theorem mk_X0_assign : MK mX0_assign 3 := ⟨tw_in 565 (by decide +kernel) (by decide +kernel), tw_in 108 (by decide +kernel) (by decide +kernel), by decide, by decide, by decide +kernel, by decide +kernel⟩
theorem mi_X0_assign : Cond.instanceMethod yX0_assign ∈ TW := tw_in 564 (by decide +kernel) (by decide +kernel)
theorem me_X0_assign : Cond.selects RX0 yX0_assign yX0_assign ∈ TW := tw_in 21 (by decide +kernel) (by decide +kernel)
abbrev mX0_begin : MI := (yX0_begin, cX0_begin, 3, none, { frames := 1, cells := 0, slots := 0, locals := 26 })
theorem mk_X0_begin : MK mX0_begin 1 := ⟨tw_in 561 (by decide +kernel) (by decide +kernel), tw_in 108 (by decide +kernel) (by decide +kernel), by decide, by decide, by decide +kernel, by decide +kernel⟩
theorem mi_X0_begin : Cond.instanceMethod yX0_begin ∈ TW := tw_in 560 (by decide +kernel) (by decide +kernel)
theorem me_X0_begin : Cond.selects RX0 yX0_begin yX0_begin ∈ TW := tw_in 20 (by decide +kernel) (by decide +kernel)
abbrev mX0_compute : MI := (yX0_compute, cX0_compute, 8, none, { frames := 2, cells := 0, slots := 0, locals := 76 })
theorem mk_X0_compute : MK mX0_compute 3 := ⟨tw_in 578 (by decide +kernel) (by decide +kernel), tw_in 108 (by decide +kernel) (by decide +kernel), by decide, by decide, by decide +kernel, by decide +kernel⟩
theorem mi_X0_compute : Cond.instanceMethod yX0_compute ∈ TW := tw_in 577 (by decide +kernel) (by decide +kernel)
theorem me_X0_compute : Cond.selects RX0 yX0_compute yX0_compute ∈ TW := tw_in 24 (by decide +kernel) (by decide +kernel)
abbrev mX0_execute : MI := (yX0_execute, cX0_execute, 3, none, { frames := 3, cells := 0, slots := 0, locals := 103 })
theorem mk_X0_execute : MK mX0_execute 2 := ⟨tw_in 574 (by decide +kernel) (by decide +kernel), tw_in 108 (by decide +kernel) (by decide +kernel), by decide, by decide, by decide +kernel, by decide +kernel⟩
theorem mi_X0_execute : Cond.instanceMethod yX0_execute ∈ TW := tw_in 573 (by decide +kernel) (by decide +kernel)
theorem me_X0_execute : Cond.selects RX0 yX0_execute yX0_execute ∈ TW := tw_in 23 (by decide +kernel) (by decide +kernel)
abbrev mX0_finalHigh : MI := (yX0_finalHigh, cX0_finalHigh, 2, some .int, { frames := 0, cells := 0, slots := 0, locals := 0 })
theorem mk_X0_finalHigh : MK mX0_finalHigh 1 := ⟨tw_in 749 (by decide +kernel) (by decide +kernel), tw_in 108 (by decide +kernel) (by decide +kernel), by decide, by decide, by decide +kernel, by decide +kernel⟩
theorem mi_X0_finalHigh : Cond.instanceMethod yX0_finalHigh ∈ TW := tw_in 748 (by decide +kernel) (by decide +kernel)
theorem me_X0_finalHigh : Cond.selects RX0 yX0_finalHigh yX0_finalHigh ∈ TW := tw_in 52 (by decide +kernel) (by decide +kernel)
abbrev mX0_finalLow : MI := (yX0_finalLow, cX0_finalLow, 2, some .int, { frames := 0, cells := 0, slots := 0, locals := 0 })
theorem mk_X0_finalLow : MK mX0_finalLow 1 := ⟨tw_in 745 (by decide +kernel) (by decide +kernel), tw_in 108 (by decide +kernel) (by decide +kernel), by decide, by decide, by decide +kernel, by decide +kernel⟩
theorem mi_X0_finalLow : Cond.instanceMethod yX0_finalLow ∈ TW := tw_in 744 (by decide +kernel) (by decide +kernel)
theorem me_X0_finalLow : Cond.selects RX0 yX0_finalLow yX0_finalLow ∈ TW := tw_in 51 (by decide +kernel) (by decide +kernel)
abbrev mX0_go : MI := (yX0_go, cX0_go, 4, none, { frames := 4, cells := 0, slots := 0, locals := 125 })
theorem mk_X0_go : MK mX0_go 2 := ⟨tw_in 557 (by decide +kernel) (by decide +kernel), tw_in 108 (by decide +kernel) (by decide +kernel), by decide, by decide, by decide +kernel, by decide +kernel⟩
theorem mi_X0_go : Cond.instanceMethod yX0_go ∈ TW := tw_in 556 (by decide +kernel) (by decide +kernel)
theorem me_X0_go : Cond.selects RX0 yX0_go yX0_go ∈ TW := tw_in 19 (by decide +kernel) (by decide +kernel)
abbrev mX0_highOf : MI := (yX0_highOf, cX0_highOf, 2, some .long, { frames := 1, cells := 0, slots := 0, locals := 20 })
theorem mk_X0_highOf : MK mX0_highOf 1 := ⟨tw_in 589 (by decide +kernel) (by decide +kernel), tw_in 108 (by decide +kernel) (by decide +kernel), by decide, by decide, by decide +kernel, by decide +kernel⟩
theorem mi_X0_highOf : Cond.instanceMethod yX0_highOf ∈ TW := tw_in 588 (by decide +kernel) (by decide +kernel)
theorem me_X0_highOf : Cond.selects RX0 yX0_highOf yX0_highOf ∈ TW := tw_in 26 (by decide +kernel) (by decide +kernel)
abbrev mX0_init : MI := (yX0_init, cX0_init, 1, none, { frames := 2, cells := 9, slots := 170, locals := 60 })
theorem mk_X0_init : MK mX0_init 0 := ⟨tw_in 288 (by decide +kernel) (by decide +kernel), tw_in 108 (by decide +kernel) (by decide +kernel), by decide, by decide, by decide +kernel, by decide +kernel⟩
theorem mi_X0_init : Cond.instanceMethod yX0_init ∈ TW := tw_in 287 (by decide +kernel) (by decide +kernel)
abbrev mX0_isNeverNegative : MI := (yX0_isNeverNegative, cX0_isNeverNegative, 4, some .boolean, { frames := 1, cells := 0, slots := 0, locals := 20 })
theorem mk_X0_isNeverNegative : MK mX0_isNeverNegative 3 := ⟨tw_in 638 (by decide +kernel) (by decide +kernel), tw_in 108 (by decide +kernel) (by decide +kernel), by decide, by decide, by decide +kernel, by decide +kernel⟩
theorem mi_X0_isNeverNegative : Cond.instanceMethod yX0_isNeverNegative ∈ TW := tw_in 637 (by decide +kernel) (by decide +kernel)
theorem me_X0_isNeverNegative : Cond.selects RX0 yX0_isNeverNegative yX0_isNeverNegative ∈ TW := tw_in 33 (by decide +kernel) (by decide +kernel)
abbrev mX0_lowOf : MI := (yX0_lowOf, cX0_lowOf, 2, some .long, { frames := 1, cells := 0, slots := 0, locals := 20 })
theorem mk_X0_lowOf : MK mX0_lowOf 1 := ⟨tw_in 582 (by decide +kernel) (by decide +kernel), tw_in 108 (by decide +kernel) (by decide +kernel), by decide, by decide, by decide +kernel, by decide +kernel⟩
theorem mi_X0_lowOf : Cond.instanceMethod yX0_lowOf ∈ TW := tw_in 581 (by decide +kernel) (by decide +kernel)
theorem me_X0_lowOf : Cond.selects RX0 yX0_lowOf yX0_lowOf ∈ TW := tw_in 25 (by decide +kernel) (by decide +kernel)
abbrev mX0_multiply : MI := (yX0_multiply, cX0_multiply, 17, none, { frames := 1, cells := 0, slots := 0, locals := 40 })
theorem mk_X0_multiply : MK mX0_multiply 4 := ⟨tw_in 593 (by decide +kernel) (by decide +kernel), tw_in 108 (by decide +kernel) (by decide +kernel), by decide, by decide, by decide +kernel, by decide +kernel⟩
theorem mi_X0_multiply : Cond.instanceMethod yX0_multiply ∈ TW := tw_in 592 (by decide +kernel) (by decide +kernel)
theorem me_X0_multiply : Cond.selects RX0 yX0_multiply yX0_multiply ∈ TW := tw_in 27 (by decide +kernel) (by decide +kernel)
abbrev mX0_note : MI := (yX0_note, cX0_note, 2, none, { frames := 1, cells := 0, slots := 0, locals := 40 })
theorem mk_X0_note : MK mX0_note 1 := ⟨tw_in 603 (by decide +kernel) (by decide +kernel), tw_in 108 (by decide +kernel) (by decide +kernel), by decide, by decide, by decide +kernel, by decide +kernel⟩
theorem mi_X0_note : Cond.instanceMethod yX0_note ∈ TW := tw_in 602 (by decide +kernel) (by decide +kernel)
theorem me_X0_note : Cond.selects RX0 yX0_note yX0_note ∈ TW := tw_in 28 (by decide +kernel) (by decide +kernel)
abbrev mX10_append : MI := (yX10_append, cX10_append, 2, some .int, { frames := 6, cells := 1, slots := 6, locals := 90 })
theorem mk_X10_append : MK mX10_append 1 := ⟨tw_in 761 (by decide +kernel) (by decide +kernel), tw_in 101 (by decide +kernel) (by decide +kernel), by decide, by decide, by decide +kernel, by decide +kernel⟩
theorem mi_X10_append : Cond.instanceMethod yX10_append ∈ TW := tw_in 759 (by decide +kernel) (by decide +kernel)
theorem me_X10_append : Cond.selects RX10 yX10_append yX10_append ∈ TW := tw_in 760 (by decide +kernel) (by decide +kernel)
abbrev mX10_canFailBetween : MI := (yX10_canFailBetween, cX10_canFailBetween, 4, some .boolean, { frames := 5, cells := 0, slots := 0, locals := 148 })
theorem mk_X10_canFailBetween : MK mX10_canFailBetween 3 := ⟨tw_in 1020 (by decide +kernel) (by decide +kernel), tw_in 101 (by decide +kernel) (by decide +kernel), by decide, by decide, by decide +kernel, by decide +kernel⟩
theorem mi_X10_canFailBetween : Cond.instanceMethod yX10_canFailBetween ∈ TW := tw_in 1019 (by decide +kernel) (by decide +kernel)
theorem me_X10_canFailBetween : Cond.selects RX10 yX10_canFailBetween yX10_canFailBetween ∈ TW := tw_in 62 (by decide +kernel) (by decide +kernel)
abbrev mX10_checks : MI := (yX10_checks, cX10_checks, 2, some .int, { frames := 7, cells := 0, slots := 0, locals := 188 })
theorem mk_X10_checks : MK mX10_checks 1 := ⟨tw_in 716 (by decide +kernel) (by decide +kernel), tw_in 101 (by decide +kernel) (by decide +kernel), by decide, by decide, by decide +kernel, by decide +kernel⟩
theorem mi_X10_checks : Cond.instanceMethod yX10_checks ∈ TW := tw_in 714 (by decide +kernel) (by decide +kernel)
theorem me_X10_checks : Cond.selects RX10 yX10_checks yX10_checks ∈ TW := tw_in 715 (by decide +kernel) (by decide +kernel)
abbrev mX10_clearText : MI := (yX10_clearText, cX10_clearText, 2, some .int, { frames := 0, cells := 0, slots := 0, locals := 0 })
theorem mk_X10_clearText : MK mX10_clearText 0 := ⟨tw_in 451 (by decide +kernel) (by decide +kernel), tw_in 101 (by decide +kernel) (by decide +kernel), by decide, by decide, by decide +kernel, by decide +kernel⟩
theorem mi_X10_clearText : Cond.instanceMethod yX10_clearText ∈ TW := tw_in 449 (by decide +kernel) (by decide +kernel)
theorem me_X10_clearText : Cond.selects RX10 yX10_clearText yX10_clearText ∈ TW := tw_in 450 (by decide +kernel) (by decide +kernel)
abbrev mX10_completes : MI := (yX10_completes, cX10_completes, 1, some .boolean, { frames := 6, cells := 0, slots := 0, locals := 168 })
theorem mk_X10_completes : MK mX10_completes 0 := ⟨tw_in 549 (by decide +kernel) (by decide +kernel), tw_in 101 (by decide +kernel) (by decide +kernel), by decide, by decide, by decide +kernel, by decide +kernel⟩
theorem mi_X10_completes : Cond.instanceMethod yX10_completes ∈ TW := tw_in 547 (by decide +kernel) (by decide +kernel)
theorem me_X10_completes : Cond.selects RX10 yX10_completes yX10_completes ∈ TW := tw_in 548 (by decide +kernel) (by decide +kernel)
abbrev mX10_coveredBy : MI := (yX10_coveredBy, cX10_coveredBy, 2, some .int, { frames := 7, cells := 1, slots := 6, locals := 168 })
theorem mk_X10_coveredBy : MK mX10_coveredBy 1 := ⟨tw_in 959 (by decide +kernel) (by decide +kernel), tw_in 101 (by decide +kernel) (by decide +kernel), by decide, by decide, by decide +kernel, by decide +kernel⟩
theorem mi_X10_coveredBy : Cond.instanceMethod yX10_coveredBy ∈ TW := tw_in 957 (by decide +kernel) (by decide +kernel)
theorem me_X10_coveredBy : Cond.selects RX10 yX10_coveredBy yX10_coveredBy ∈ TW := tw_in 958 (by decide +kernel) (by decide +kernel)
abbrev mX10_digest : MI := (yX10_digest, cX10_digest, 4, some .long, { frames := 7, cells := 0, slots := 0, locals := 188 })
theorem mk_X10_digest : MK mX10_digest 0 := ⟨tw_in 728 (by decide +kernel) (by decide +kernel), tw_in 101 (by decide +kernel) (by decide +kernel), by decide, by decide, by decide +kernel, by decide +kernel⟩
theorem mi_X10_digest : Cond.instanceMethod yX10_digest ∈ TW := tw_in 726 (by decide +kernel) (by decide +kernel)
theorem me_X10_digest : Cond.selects RX10 yX10_digest yX10_digest ∈ TW := tw_in 727 (by decide +kernel) (by decide +kernel)
abbrev mX10_executed : MI := (yX10_executed, cX10_executed, 1, some .int, { frames := 7, cells := 0, slots := 0, locals := 188 })
theorem mk_X10_executed : MK mX10_executed 0 := ⟨tw_in 720 (by decide +kernel) (by decide +kernel), tw_in 101 (by decide +kernel) (by decide +kernel), by decide, by decide, by decide +kernel, by decide +kernel⟩
theorem mi_X10_executed : Cond.instanceMethod yX10_executed ∈ TW := tw_in 718 (by decide +kernel) (by decide +kernel)
theorem me_X10_executed : Cond.selects RX10 yX10_executed yX10_executed ∈ TW := tw_in 719 (by decide +kernel) (by decide +kernel)
abbrev mX10_failingInput : MI := (yX10_failingInput, cX10_failingInput, 10, some .int, { frames := 7, cells := 1, slots := 6, locals := 171 })
theorem mk_X10_failingInput : MK mX10_failingInput 1 := ⟨tw_in 1006 (by decide +kernel) (by decide +kernel), tw_in 101 (by decide +kernel) (by decide +kernel), by decide, by decide, by decide +kernel, by decide +kernel⟩
theorem mi_X10_failingInput : Cond.instanceMethod yX10_failingInput ∈ TW := tw_in 1004 (by decide +kernel) (by decide +kernel)
theorem me_X10_failingInput : Cond.selects RX10 yX10_failingInput yX10_failingInput ∈ TW := tw_in 1005 (by decide +kernel) (by decide +kernel)
abbrev mX10_failsWith : MI := (yX10_failsWith, cX10_failsWith, 3, some .boolean, { frames := 5, cells := 0, slots := 0, locals := 113 })
theorem mk_X10_failsWith : MK mX10_failsWith 2 := ⟨tw_in 1016 (by decide +kernel) (by decide +kernel), tw_in 101 (by decide +kernel) (by decide +kernel), by decide, by decide, by decide +kernel, by decide +kernel⟩
theorem mi_X10_failsWith : Cond.instanceMethod yX10_failsWith ∈ TW := tw_in 1015 (by decide +kernel) (by decide +kernel)
theorem me_X10_failsWith : Cond.selects RX10 yX10_failsWith yX10_failsWith ∈ TW := tw_in 61 (by decide +kernel) (by decide +kernel)
abbrev mX10_failure : MI := (yX10_failure, cX10_failure, 2, some .int, { frames := 7, cells := 0, slots := 0, locals := 188 })
theorem mk_X10_failure : MK mX10_failure 1 := ⟨tw_in 665 (by decide +kernel) (by decide +kernel), tw_in 101 (by decide +kernel) (by decide +kernel), by decide, by decide, by decide +kernel, by decide +kernel⟩
theorem mi_X10_failure : Cond.instanceMethod yX10_failure ∈ TW := tw_in 663 (by decide +kernel) (by decide +kernel)
theorem me_X10_failure : Cond.selects RX10 yX10_failure yX10_failure ∈ TW := tw_in 664 (by decide +kernel) (by decide +kernel)
abbrev mX10_finalRange : MI := (yX10_finalRange, cX10_finalRange, 3, some .int, { frames := 7, cells := 1, slots := 6, locals := 168 })
theorem mk_X10_finalRange : MK mX10_finalRange 2 := ⟨tw_in 973 (by decide +kernel) (by decide +kernel), tw_in 101 (by decide +kernel) (by decide +kernel), by decide, by decide, by decide +kernel, by decide +kernel⟩
theorem mi_X10_finalRange : Cond.instanceMethod yX10_finalRange ∈ TW := tw_in 971 (by decide +kernel) (by decide +kernel)
theorem me_X10_finalRange : Cond.selects RX10 yX10_finalRange yX10_finalRange ∈ TW := tw_in 972 (by decide +kernel) (by decide +kernel)
abbrev mX10_forgetAnswers : MI := (yX10_forgetAnswers, cX10_forgetAnswers, 1, none, { frames := 0, cells := 0, slots := 0, locals := 0 })
theorem mk_X10_forgetAnswers : MK mX10_forgetAnswers 0 := ⟨tw_in 540 (by decide +kernel) (by decide +kernel), tw_in 101 (by decide +kernel) (by decide +kernel), by decide, by decide, by decide +kernel, by decide +kernel⟩
theorem mi_X10_forgetAnswers : Cond.instanceMethod yX10_forgetAnswers ∈ TW := tw_in 539 (by decide +kernel) (by decide +kernel)
theorem me_X10_forgetAnswers : Cond.selects RX10 yX10_forgetAnswers yX10_forgetAnswers ∈ TW := tw_in 17 (by decide +kernel) (by decide +kernel)
abbrev mX10_freshenAnalysis : MI := (yX10_freshenAnalysis, cX10_freshenAnalysis, 1, none, { frames := 5, cells := 0, slots := 0, locals := 148 })
theorem mk_X10_freshenAnalysis : MK mX10_freshenAnalysis 0 := ⟨tw_in 553 (by decide +kernel) (by decide +kernel), tw_in 101 (by decide +kernel) (by decide +kernel), by decide, by decide, by decide +kernel, by decide +kernel⟩
theorem mi_X10_freshenAnalysis : Cond.instanceMethod yX10_freshenAnalysis ∈ TW := tw_in 552 (by decide +kernel) (by decide +kernel)
theorem me_X10_freshenAnalysis : Cond.selects RX10 yX10_freshenAnalysis yX10_freshenAnalysis ∈ TW := tw_in 18 (by decide +kernel) (by decide +kernel)
abbrev mX10_freshenRuns : MI := (yX10_freshenRuns, cX10_freshenRuns, 1, none, { frames := 6, cells := 0, slots := 0, locals := 168 })
theorem mk_X10_freshenRuns : MK mX10_freshenRuns 0 := ⟨tw_in 669 (by decide +kernel) (by decide +kernel), tw_in 101 (by decide +kernel) (by decide +kernel), by decide, by decide, by decide +kernel, by decide +kernel⟩
theorem mi_X10_freshenRuns : Cond.instanceMethod yX10_freshenRuns ∈ TW := tw_in 668 (by decide +kernel) (by decide +kernel)
theorem me_X10_freshenRuns : Cond.selects RX10 yX10_freshenRuns yX10_freshenRuns ∈ TW := tw_in 39 (by decide +kernel) (by decide +kernel)
abbrev mX10_init : MI := (yX10_init, cX10_init, 1, none, { frames := 4, cells := 116, slots := 2113, locals := 102 })
theorem mk_X10_init : MK mX10_init 0 := ⟨tw_in 125 (by decide +kernel) (by decide +kernel), tw_in 101 (by decide +kernel) (by decide +kernel), by decide, by decide, by decide +kernel, by decide +kernel⟩
theorem mi_X10_init : Cond.instanceMethod yX10_init ∈ TW := tw_in 124 (by decide +kernel) (by decide +kernel)
abbrev mX10_input : MI := (yX10_input, cX10_input, 3, some .int, { frames := 7, cells := 1, slots := 6, locals := 110 })
theorem mk_X10_input : MK mX10_input 2 := ⟨tw_in 899 (by decide +kernel) (by decide +kernel), tw_in 101 (by decide +kernel) (by decide +kernel), by decide, by decide, by decide +kernel, by decide +kernel⟩
theorem mi_X10_input : Cond.instanceMethod yX10_input ∈ TW := tw_in 897 (by decide +kernel) (by decide +kernel)
theorem me_X10_input : Cond.selects RX10 yX10_input yX10_input ∈ TW := tw_in 898 (by decide +kernel) (by decide +kernel)
abbrev mX10_instruction : MI := (yX10_instruction, cX10_instruction, 3, some .int, { frames := 7, cells := 1, slots := 6, locals := 111 })
theorem mk_X10_instruction : MK mX10_instruction 2 := ⟨tw_in 929 (by decide +kernel) (by decide +kernel), tw_in 101 (by decide +kernel) (by decide +kernel), by decide, by decide, by decide +kernel, by decide +kernel⟩
theorem mi_X10_instruction : Cond.instanceMethod yX10_instruction ∈ TW := tw_in 927 (by decide +kernel) (by decide +kernel)
theorem me_X10_instruction : Cond.selects RX10 yX10_instruction yX10_instruction ∈ TW := tw_in 928 (by decide +kernel) (by decide +kernel)
abbrev mX10_instructions : MI := (yX10_instructions, cX10_instructions, 1, some .int, { frames := 0, cells := 0, slots := 0, locals := 0 })
theorem mk_X10_instructions : MK mX10_instructions 0 := ⟨tw_in 545 (by decide +kernel) (by decide +kernel), tw_in 101 (by decide +kernel) (by decide +kernel), by decide, by decide, by decide +kernel, by decide +kernel⟩
theorem mi_X10_instructions : Cond.instanceMethod yX10_instructions ∈ TW := tw_in 543 (by decide +kernel) (by decide +kernel)
theorem me_X10_instructions : Cond.selects RX10 yX10_instructions yX10_instructions ∈ TW := tw_in 544 (by decide +kernel) (by decide +kernel)
abbrev mX10_isInt : MI := (yX10_isInt, cX10_isInt, 2, some .boolean, { frames := 0, cells := 0, slots := 0, locals := 0 })
theorem mk_X10_isInt : MK mX10_isInt 1 := ⟨tw_in 606 (by decide +kernel) (by decide +kernel), tw_in 101 (by decide +kernel) (by decide +kernel), by decide, by decide, by decide +kernel, by decide +kernel⟩
theorem ms_X10_isInt : Cond.static yX10_isInt ∈ TW := tw_in 605 (by decide +kernel) (by decide +kernel)
abbrev mX10_isVariable : MI := (yX10_isVariable, cX10_isVariable, 1, some .boolean, { frames := 0, cells := 0, slots := 0, locals := 0 })
theorem mk_X10_isVariable : MK mX10_isVariable 1 := ⟨tw_in 585 (by decide +kernel) (by decide +kernel), tw_in 101 (by decide +kernel) (by decide +kernel), by decide, by decide, by decide +kernel, by decide +kernel⟩
theorem ms_X10_isVariable : Cond.static yX10_isVariable ∈ TW := tw_in 584 (by decide +kernel) (by decide +kernel)
abbrev mX10_mixed : MI := (yX10_mixed, cX10_mixed, 4, some .long, { frames := 0, cells := 0, slots := 0, locals := 0 })
theorem mk_X10_mixed : MK mX10_mixed 2 := ⟨tw_in 732 (by decide +kernel) (by decide +kernel), tw_in 101 (by decide +kernel) (by decide +kernel), by decide, by decide, by decide +kernel, by decide +kernel⟩
theorem ms_X10_mixed : Cond.static yX10_mixed ∈ TW := tw_in 731 (by decide +kernel) (by decide +kernel)
abbrev mX10_mixedInstruction : MI := (yX10_mixedInstruction, cX10_mixedInstruction, 7, some .long, { frames := 1, cells := 0, slots := 0, locals := 23 })
theorem mk_X10_mixedInstruction : MK mX10_mixedInstruction 2 := ⟨tw_in 737 (by decide +kernel) (by decide +kernel), tw_in 101 (by decide +kernel) (by decide +kernel), by decide, by decide, by decide +kernel, by decide +kernel⟩
theorem mi_X10_mixedInstruction : Cond.instanceMethod yX10_mixedInstruction ∈ TW := tw_in 736 (by decide +kernel) (by decide +kernel)
theorem me_X10_mixedInstruction : Cond.selects RX10 yX10_mixedInstruction yX10_mixedInstruction ∈ TW := tw_in 49 (by decide +kernel) (by decide +kernel)
abbrev mX10_mixedRun : MI := (yX10_mixedRun, cX10_mixedRun, 7, some .long, { frames := 1, cells := 0, slots := 0, locals := 23 })
theorem mk_X10_mixedRun : MK mX10_mixedRun 3 := ⟨tw_in 752 (by decide +kernel) (by decide +kernel), tw_in 101 (by decide +kernel) (by decide +kernel), by decide, by decide, by decide +kernel, by decide +kernel⟩
theorem ms_X10_mixedRun : Cond.static yX10_mixedRun ∈ TW := tw_in 751 (by decide +kernel) (by decide +kernel)
abbrev mX10_mixedVariable : MI := (yX10_mixedVariable, cX10_mixedVariable, 7, some .long, { frames := 1, cells := 0, slots := 0, locals := 23 })
theorem mk_X10_mixedVariable : MK mX10_mixedVariable 2 := ⟨tw_in 741 (by decide +kernel) (by decide +kernel), tw_in 101 (by decide +kernel) (by decide +kernel), by decide, by decide, by decide +kernel, by decide +kernel⟩
theorem mi_X10_mixedVariable : Cond.instanceMethod yX10_mixedVariable ∈ TW := tw_in 740 (by decide +kernel) (by decide +kernel)
theorem me_X10_mixedVariable : Cond.selects RX10 yX10_mixedVariable yX10_mixedVariable ∈ TW := tw_in 50 (by decide +kernel) (by decide +kernel)
abbrev mX10_openChecksWith : MI := (yX10_openChecksWith, cX10_openChecksWith, 4, some .int, { frames := 5, cells := 0, slots := 0, locals := 148 })
theorem mk_X10_openChecksWith : MK mX10_openChecksWith 3 := ⟨tw_in 991 (by decide +kernel) (by decide +kernel), tw_in 101 (by decide +kernel) (by decide +kernel), by decide, by decide, by decide +kernel, by decide +kernel⟩
theorem mi_X10_openChecksWith : Cond.instanceMethod yX10_openChecksWith ∈ TW := tw_in 990 (by decide +kernel) (by decide +kernel)
theorem me_X10_openChecksWith : Cond.selects RX10 yX10_openChecksWith yX10_openChecksWith ∈ TW := tw_in 59 (by decide +kernel) (by decide +kernel)
abbrev mX10_openWith : MI := (yX10_openWith, cX10_openWith, 4, some .int, { frames := 7, cells := 2, slots := 12, locals := 171 })
theorem mk_X10_openWith : MK mX10_openWith 3 := ⟨tw_in 987 (by decide +kernel) (by decide +kernel), tw_in 101 (by decide +kernel) (by decide +kernel), by decide, by decide, by decide +kernel, by decide +kernel⟩
theorem mi_X10_openWith : Cond.instanceMethod yX10_openWith ∈ TW := tw_in 985 (by decide +kernel) (by decide +kernel)
theorem me_X10_openWith : Cond.selects RX10 yX10_openWith yX10_openWith ∈ TW := tw_in 986 (by decide +kernel) (by decide +kernel)
abbrev mX10_operand : MI := (yX10_operand, cX10_operand, 4, some .int, { frames := 7, cells := 1, slots := 6, locals := 111 })
theorem mk_X10_operand : MK mX10_operand 2 := ⟨tw_in 937 (by decide +kernel) (by decide +kernel), tw_in 101 (by decide +kernel) (by decide +kernel), by decide, by decide, by decide +kernel, by decide +kernel⟩
theorem mi_X10_operand : Cond.instanceMethod yX10_operand ∈ TW := tw_in 935 (by decide +kernel) (by decide +kernel)
theorem me_X10_operand : Cond.selects RX10 yX10_operand yX10_operand ∈ TW := tw_in 936 (by decide +kernel) (by decide +kernel)
abbrev mX10_outcomeOf : MI := (yX10_outcomeOf, cX10_outcomeOf, 2, some (.object "OverflowGuards$Run"), { frames := 0, cells := 0, slots := 0, locals := 0 })
theorem mk_X10_outcomeOf : MK mX10_outcomeOf 1 := ⟨tw_in 712 (by decide +kernel) (by decide +kernel), tw_in 101 (by decide +kernel) (by decide +kernel), by decide, by decide, by decide +kernel, by decide +kernel⟩
theorem mi_X10_outcomeOf : Cond.instanceMethod yX10_outcomeOf ∈ TW := tw_in 711 (by decide +kernel) (by decide +kernel)
theorem me_X10_outcomeOf : Cond.selects RX10 yX10_outcomeOf yX10_outcomeOf ∈ TW := tw_in 48 (by decide +kernel) (by decide +kernel)
abbrev mX10_parse : MI := (yX10_parse, cX10_parse, 2, some .int, { frames := 6, cells := 0, slots := 0, locals := 133 })
theorem mk_X10_parse : MK mX10_parse 0 := ⟨tw_in 455 (by decide +kernel) (by decide +kernel), tw_in 101 (by decide +kernel) (by decide +kernel), by decide, by decide, by decide +kernel, by decide +kernel⟩
theorem mi_X10_parse : Cond.instanceMethod yX10_parse ∈ TW := tw_in 453 (by decide +kernel) (by decide +kernel)
theorem me_X10_parse : Cond.selects RX10 yX10_parse yX10_parse ∈ TW := tw_in 454 (by decide +kernel) (by decide +kernel)
abbrev mX10_range : MI := (yX10_range, cX10_range, 3, some .long, { frames := 7, cells := 2, slots := 12, locals := 168 })
theorem mk_X10_range : MK mX10_range 2 := ⟨tw_in 966 (by decide +kernel) (by decide +kernel), tw_in 101 (by decide +kernel) (by decide +kernel), by decide, by decide, by decide +kernel, by decide +kernel⟩
theorem mi_X10_range : Cond.instanceMethod yX10_range ∈ TW := tw_in 964 (by decide +kernel) (by decide +kernel)
theorem me_X10_range : Cond.selects RX10 yX10_range yX10_range ∈ TW := tw_in 965 (by decide +kernel) (by decide +kernel)
abbrev mX10_remove : MI := (yX10_remove, cX10_remove, 2, some .int, { frames := 7, cells := 2, slots := 12, locals := 123 })
theorem mk_X10_remove : MK mX10_remove 1 := ⟨tw_in 907 (by decide +kernel) (by decide +kernel), tw_in 101 (by decide +kernel) (by decide +kernel), by decide, by decide, by decide +kernel, by decide +kernel⟩
theorem mi_X10_remove : Cond.instanceMethod yX10_remove ∈ TW := tw_in 905 (by decide +kernel) (by decide +kernel)
theorem me_X10_remove : Cond.selects RX10 yX10_remove yX10_remove ∈ TW := tw_in 906 (by decide +kernel) (by decide +kernel)
abbrev mX10_requireInstruction : MI := (yX10_requireInstruction, cX10_requireInstruction, 2, none, { frames := 6, cells := 1, slots := 6, locals := 90 })
theorem mk_X10_requireInstruction : MK mX10_requireInstruction 1 := ⟨tw_in 911 (by decide +kernel) (by decide +kernel), tw_in 101 (by decide +kernel) (by decide +kernel), by decide, by decide, by decide +kernel, by decide +kernel⟩
theorem mi_X10_requireInstruction : Cond.instanceMethod yX10_requireInstruction ∈ TW := tw_in 910 (by decide +kernel) (by decide +kernel)
theorem me_X10_requireInstruction : Cond.selects RX10 yX10_requireInstruction yX10_requireInstruction ∈ TW := tw_in 56 (by decide +kernel) (by decide +kernel)
abbrev mX10_requireNoLoopEdge : MI := (yX10_requireNoLoopEdge, cX10_requireNoLoopEdge, 2, none, { frames := 6, cells := 1, slots := 6, locals := 90 })
theorem mk_X10_requireNoLoopEdge : MK mX10_requireNoLoopEdge 1 := ⟨tw_in 916 (by decide +kernel) (by decide +kernel), tw_in 101 (by decide +kernel) (by decide +kernel), by decide, by decide, by decide +kernel, by decide +kernel⟩
theorem mi_X10_requireNoLoopEdge : Cond.instanceMethod yX10_requireNoLoopEdge ∈ TW := tw_in 915 (by decide +kernel) (by decide +kernel)
theorem me_X10_requireNoLoopEdge : Cond.selects RX10 yX10_requireNoLoopEdge yX10_requireNoLoopEdge ∈ TW := tw_in 57 (by decide +kernel) (by decide +kernel)
abbrev mX10_requireOrder : MI := (yX10_requireOrder, cX10_requireOrder, 2, none, { frames := 6, cells := 1, slots := 6, locals := 90 })
theorem mk_X10_requireOrder : MK mX10_requireOrder 2 := ⟨tw_in 879 (by decide +kernel) (by decide +kernel), tw_in 101 (by decide +kernel) (by decide +kernel), by decide, by decide, by decide +kernel, by decide +kernel⟩
theorem ms_X10_requireOrder : Cond.static yX10_requireOrder ∈ TW := tw_in 878 (by decide +kernel) (by decide +kernel)
abbrev mX10_requireVariable : MI := (yX10_requireVariable, cX10_requireVariable, 1, none, { frames := 6, cells := 1, slots := 6, locals := 90 })
theorem mk_X10_requireVariable : MK mX10_requireVariable 1 := ⟨tw_in 860 (by decide +kernel) (by decide +kernel), tw_in 101 (by decide +kernel) (by decide +kernel), by decide, by decide, by decide +kernel, by decide +kernel⟩
theorem ms_X10_requireVariable : Cond.static yX10_requireVariable ∈ TW := tw_in 859 (by decide +kernel) (by decide +kernel)
abbrev mX10_result : MI := (yX10_result, cX10_result, 3, some .int, { frames := 7, cells := 1, slots := 6, locals := 188 })
theorem mk_X10_result : MK mX10_result 2 := ⟨tw_in 980 (by decide +kernel) (by decide +kernel), tw_in 101 (by decide +kernel) (by decide +kernel), by decide, by decide, by decide +kernel, by decide +kernel⟩
theorem mi_X10_result : Cond.instanceMethod yX10_result ∈ TW := tw_in 978 (by decide +kernel) (by decide +kernel)
theorem me_X10_result : Cond.selects RX10 yX10_result yX10_result ∈ TW := tw_in 979 (by decide +kernel) (by decide +kernel)
abbrev mX10_safePower : MI := (yX10_safePower, cX10_safePower, 6, some .int, { frames := 7, cells := 1, slots := 6, locals := 171 })
theorem mk_X10_safePower : MK mX10_safePower 1 := ⟨tw_in 999 (by decide +kernel) (by decide +kernel), tw_in 101 (by decide +kernel) (by decide +kernel), by decide, by decide, by decide +kernel, by decide +kernel⟩
theorem mi_X10_safePower : Cond.instanceMethod yX10_safePower ∈ TW := tw_in 997 (by decide +kernel) (by decide +kernel)
theorem me_X10_safePower : Cond.selects RX10 yX10_safePower yX10_safePower ∈ TW := tw_in 998 (by decide +kernel) (by decide +kernel)
abbrev mX10_saveForUndo : MI := (yX10_saveForUndo, cX10_saveForUndo, 1, none, { frames := 4, cells := 0, slots := 0, locals := 103 })
theorem mk_X10_saveForUndo : MK mX10_saveForUndo 0 := ⟨tw_in 512 (by decide +kernel) (by decide +kernel), tw_in 101 (by decide +kernel) (by decide +kernel), by decide, by decide, by decide +kernel, by decide +kernel⟩
theorem mi_X10_saveForUndo : Cond.instanceMethod yX10_saveForUndo ∈ TW := tw_in 511 (by decide +kernel) (by decide +kernel)
theorem me_X10_saveForUndo : Cond.selects RX10 yX10_saveForUndo yX10_saveForUndo ∈ TW := tw_in 11 (by decide +kernel) (by decide +kernel)
abbrev mX10_saving : MI := (yX10_saving, cX10_saving, 1, some .double, { frames := 7, cells := 0, slots := 0, locals := 188 })
theorem mk_X10_saving : MK mX10_saving 0 := ⟨tw_in 724 (by decide +kernel) (by decide +kernel), tw_in 101 (by decide +kernel) (by decide +kernel), by decide, by decide, by decide +kernel, by decide +kernel⟩
theorem mi_X10_saving : Cond.instanceMethod yX10_saving ∈ TW := tw_in 722 (by decide +kernel) (by decide +kernel)
theorem me_X10_saving : Cond.selects RX10 yX10_saving yX10_saving ∈ TW := tw_in 723 (by decide +kernel) (by decide +kernel)
abbrev mX10_setInput : MI := (yX10_setInput, cX10_setInput, 5, some .int, { frames := 7, cells := 1, slots := 6, locals := 123 })
theorem mk_X10_setInput : MK mX10_setInput 2 := ⟨tw_in 891 (by decide +kernel) (by decide +kernel), tw_in 101 (by decide +kernel) (by decide +kernel), by decide, by decide, by decide +kernel, by decide +kernel⟩
theorem mi_X10_setInput : Cond.instanceMethod yX10_setInput ∈ TW := tw_in 889 (by decide +kernel) (by decide +kernel)
theorem me_X10_setInput : Cond.selects RX10 yX10_setInput yX10_setInput ∈ TW := tw_in 890 (by decide +kernel) (by decide +kernel)
abbrev mX10_setRange : MI := (yX10_setRange, cX10_setRange, 4, some .int, { frames := 7, cells := 2, slots := 12, locals := 123 })
theorem mk_X10_setRange : MK mX10_setRange 3 := ⟨tw_in 857 (by decide +kernel) (by decide +kernel), tw_in 101 (by decide +kernel) (by decide +kernel), by decide, by decide, by decide +kernel, by decide +kernel⟩
theorem mi_X10_setRange : Cond.instanceMethod yX10_setRange ∈ TW := tw_in 855 (by decide +kernel) (by decide +kernel)
theorem me_X10_setRange : Cond.selects RX10 yX10_setRange yX10_setRange ∈ TW := tw_in 856 (by decide +kernel) (by decide +kernel)
abbrev mX10_state : MI := (yX10_state, cX10_state, 2, some .int, { frames := 7, cells := 1, slots := 6, locals := 168 })
theorem mk_X10_state : MK mX10_state 1 := ⟨tw_in 944 (by decide +kernel) (by decide +kernel), tw_in 101 (by decide +kernel) (by decide +kernel), by decide, by decide, by decide +kernel, by decide +kernel⟩
theorem mi_X10_state : Cond.instanceMethod yX10_state ∈ TW := tw_in 942 (by decide +kernel) (by decide +kernel)
theorem me_X10_state : Cond.selects RX10 yX10_state yX10_state ∈ TW := tw_in 943 (by decide +kernel) (by decide +kernel)
abbrev mX10_states : MI := (yX10_states, cX10_states, 4, some .int, { frames := 6, cells := 1, slots := 6, locals := 168 })
theorem mk_X10_states : MK mX10_states 1 := ⟨tw_in 951 (by decide +kernel) (by decide +kernel), tw_in 101 (by decide +kernel) (by decide +kernel), by decide, by decide, by decide +kernel, by decide +kernel⟩
theorem mi_X10_states : Cond.instanceMethod yX10_states ∈ TW := tw_in 949 (by decide +kernel) (by decide +kernel)
theorem me_X10_states : Cond.selects RX10 yX10_states yX10_states ∈ TW := tw_in 950 (by decide +kernel) (by decide +kernel)
abbrev mX10_undo : MI := (yX10_undo, cX10_undo, 1, some .int, { frames := 6, cells := 1, slots := 6, locals := 103 })
theorem mk_X10_undo : MK mX10_undo 0 := ⟨tw_in 1028 (by decide +kernel) (by decide +kernel), tw_in 101 (by decide +kernel) (by decide +kernel), by decide, by decide, by decide +kernel, by decide +kernel⟩
theorem mi_X10_undo : Cond.instanceMethod yX10_undo ∈ TW := tw_in 1026 (by decide +kernel) (by decide +kernel)
theorem me_X10_undo : Cond.selects RX10 yX10_undo yX10_undo ∈ TW := tw_in 1027 (by decide +kernel) (by decide +kernel)
abbrev mX11_analyses : MI := (yX11_analyses, cX11_analyses, 2, none, { frames := 4, cells := 0, slots := 0, locals := 92 })
theorem mk_X11_analyses : MK mX11_analyses 0 := ⟨tw_in 1266 (by decide +kernel) (by decide +kernel), tw_in 112 (by decide +kernel) (by decide +kernel), by decide, by decide, by decide +kernel, by decide +kernel⟩
theorem mi_X11_analyses : Cond.instanceMethod yX11_analyses ∈ TW := tw_in 1265 (by decide +kernel) (by decide +kernel)
theorem me_X11_analyses : Cond.selects RX11 yX11_analyses yX11_analyses ∈ TW := tw_in 80 (by decide +kernel) (by decide +kernel)
abbrev mX11_append : MI := (yX11_append, cX11_append, 2, some .int, { frames := 1, cells := 0, slots := 0, locals := 25 })
theorem mk_X11_append : MK mX11_append 1 := ⟨tw_in 1143 (by decide +kernel) (by decide +kernel), tw_in 112 (by decide +kernel) (by decide +kernel), by decide, by decide, by decide +kernel, by decide +kernel⟩
theorem mi_X11_append : Cond.instanceMethod yX11_append ∈ TW := tw_in 1141 (by decide +kernel) (by decide +kernel)
theorem me_X11_append : Cond.selects RX11 yX11_append yX11_append ∈ TW := tw_in 1142 (by decide +kernel) (by decide +kernel)
abbrev mX11_checks : MI := (yX11_checks, cX11_checks, 2, some .int, { frames := 6, cells := 0, slots := 0, locals := 135 })
theorem mk_X11_checks : MK mX11_checks 1 := ⟨tw_in 1381 (by decide +kernel) (by decide +kernel), tw_in 112 (by decide +kernel) (by decide +kernel), by decide, by decide, by decide +kernel, by decide +kernel⟩
theorem mi_X11_checks : Cond.instanceMethod yX11_checks ∈ TW := tw_in 1379 (by decide +kernel) (by decide +kernel)
theorem me_X11_checks : Cond.selects RX11 yX11_checks yX11_checks ∈ TW := tw_in 1380 (by decide +kernel) (by decide +kernel)
abbrev mX11_checksLoop : MI := (yX11_checksLoop, cX11_checksLoop, 3, none, { frames := 2, cells := 0, slots := 0, locals := 46 })
theorem mk_X11_checksLoop : MK mX11_checksLoop 1 := ⟨tw_in 1358 (by decide +kernel) (by decide +kernel), tw_in 112 (by decide +kernel) (by decide +kernel), by decide, by decide, by decide +kernel, by decide +kernel⟩
theorem mi_X11_checksLoop : Cond.instanceMethod yX11_checksLoop ∈ TW := tw_in 1357 (by decide +kernel) (by decide +kernel)
theorem me_X11_checksLoop : Cond.selects RX11 yX11_checksLoop yX11_checksLoop ∈ TW := tw_in 94 (by decide +kernel) (by decide +kernel)
abbrev mX11_clearText : MI := (yX11_clearText, cX11_clearText, 2, some .int, { frames := 0, cells := 0, slots := 0, locals := 0 })
theorem mk_X11_clearText : MK mX11_clearText 0 := ⟨tw_in 1155 (by decide +kernel) (by decide +kernel), tw_in 112 (by decide +kernel) (by decide +kernel), by decide, by decide, by decide +kernel, by decide +kernel⟩
theorem mi_X11_clearText : Cond.instanceMethod yX11_clearText ∈ TW := tw_in 1153 (by decide +kernel) (by decide +kernel)
theorem me_X11_clearText : Cond.selects RX11 yX11_clearText yX11_clearText ∈ TW := tw_in 1154 (by decide +kernel) (by decide +kernel)
abbrev mX11_completes : MI := (yX11_completes, cX11_completes, 1, some .boolean, { frames := 5, cells := 0, slots := 0, locals := 113 })
theorem mk_X11_completes : MK mX11_completes 0 := ⟨tw_in 1342 (by decide +kernel) (by decide +kernel), tw_in 112 (by decide +kernel) (by decide +kernel), by decide, by decide, by decide +kernel, by decide +kernel⟩
theorem mi_X11_completes : Cond.instanceMethod yX11_completes ∈ TW := tw_in 1340 (by decide +kernel) (by decide +kernel)
theorem me_X11_completes : Cond.selects RX11 yX11_completes yX11_completes ∈ TW := tw_in 1341 (by decide +kernel) (by decide +kernel)
abbrev mX11_coverOf : MI := (yX11_coverOf, cX11_coverOf, 9, some .int, { frames := 3, cells := 0, slots := 0, locals := 64 })
theorem mk_X11_coverOf : MK mX11_coverOf 1 := ⟨tw_in 1302 (by decide +kernel) (by decide +kernel), tw_in 112 (by decide +kernel) (by decide +kernel), by decide, by decide, by decide +kernel, by decide +kernel⟩
theorem mi_X11_coverOf : Cond.instanceMethod yX11_coverOf ∈ TW := tw_in 1301 (by decide +kernel) (by decide +kernel)
theorem me_X11_coverOf : Cond.selects RX11 yX11_coverOf yX11_coverOf ∈ TW := tw_in 87 (by decide +kernel) (by decide +kernel)
abbrev mX11_coveredBy : MI := (yX11_coveredBy, cX11_coveredBy, 2, some .int, { frames := 5, cells := 0, slots := 0, locals := 113 })
theorem mk_X11_coveredBy : MK mX11_coveredBy 1 := ⟨tw_in 1326 (by decide +kernel) (by decide +kernel), tw_in 112 (by decide +kernel) (by decide +kernel), by decide, by decide, by decide +kernel, by decide +kernel⟩
theorem mi_X11_coveredBy : Cond.instanceMethod yX11_coveredBy ∈ TW := tw_in 1324 (by decide +kernel) (by decide +kernel)
theorem me_X11_coveredBy : Cond.selects RX11 yX11_coveredBy yX11_coveredBy ∈ TW := tw_in 1325 (by decide +kernel) (by decide +kernel)
abbrev mX11_digest : MI := (yX11_digest, cX11_digest, 5, some .long, { frames := 7, cells := 0, slots := 0, locals := 162 })
theorem mk_X11_digest : MK mX11_digest 0 := ⟨tw_in 1415 (by decide +kernel) (by decide +kernel), tw_in 112 (by decide +kernel) (by decide +kernel), by decide, by decide, by decide +kernel, by decide +kernel⟩
theorem mi_X11_digest : Cond.instanceMethod yX11_digest ∈ TW := tw_in 1413 (by decide +kernel) (by decide +kernel)
theorem me_X11_digest : Cond.selects RX11 yX11_digest yX11_digest ∈ TW := tw_in 1414 (by decide +kernel) (by decide +kernel)
abbrev mX11_exact : MI := (yX11_exact, cX11_exact, 6, some .long, { frames := 2, cells := 0, slots := 0, locals := 43 })
theorem mk_X11_exact : MK mX11_exact 1 := ⟨tw_in 1369 (by decide +kernel) (by decide +kernel), tw_in 112 (by decide +kernel) (by decide +kernel), by decide, by decide, by decide +kernel, by decide +kernel⟩
theorem mi_X11_exact : Cond.instanceMethod yX11_exact ∈ TW := tw_in 1368 (by decide +kernel) (by decide +kernel)
theorem me_X11_exact : Cond.selects RX11 yX11_exact yX11_exact ∈ TW := tw_in 96 (by decide +kernel) (by decide +kernel)
abbrev mX11_executed : MI := (yX11_executed, cX11_executed, 1, some .int, { frames := 5, cells := 0, slots := 0, locals := 111 })
theorem mk_X11_executed : MK mX11_executed 0 := ⟨tw_in 1385 (by decide +kernel) (by decide +kernel), tw_in 112 (by decide +kernel) (by decide +kernel), by decide, by decide, by decide +kernel, by decide +kernel⟩
theorem mi_X11_executed : Cond.instanceMethod yX11_executed ∈ TW := tw_in 1383 (by decide +kernel) (by decide +kernel)
theorem me_X11_executed : Cond.selects RX11 yX11_executed yX11_executed ∈ TW := tw_in 1384 (by decide +kernel) (by decide +kernel)
abbrev mX11_failingInput : MI := (yX11_failingInput, cX11_failingInput, 7, some .int, { frames := 5, cells := 0, slots := 0, locals := 111 })
theorem mk_X11_failingInput : MK mX11_failingInput 1 := ⟨tw_in 1405 (by decide +kernel) (by decide +kernel), tw_in 112 (by decide +kernel) (by decide +kernel), by decide, by decide, by decide +kernel, by decide +kernel⟩
theorem mi_X11_failingInput : Cond.instanceMethod yX11_failingInput ∈ TW := tw_in 1403 (by decide +kernel) (by decide +kernel)
theorem me_X11_failingInput : Cond.selects RX11 yX11_failingInput yX11_failingInput ∈ TW := tw_in 1404 (by decide +kernel) (by decide +kernel)
abbrev mX11_failure : MI := (yX11_failure, cX11_failure, 3, some .int, { frames := 6, cells := 0, slots := 0, locals := 135 })
theorem mk_X11_failure : MK mX11_failure 1 := ⟨tw_in 1346 (by decide +kernel) (by decide +kernel), tw_in 112 (by decide +kernel) (by decide +kernel), by decide, by decide, by decide +kernel, by decide +kernel⟩
theorem mi_X11_failure : Cond.instanceMethod yX11_failure ∈ TW := tw_in 1344 (by decide +kernel) (by decide +kernel)
theorem me_X11_failure : Cond.selects RX11 yX11_failure yX11_failure ∈ TW := tw_in 1345 (by decide +kernel) (by decide +kernel)
abbrev mX11_finalOf : MI := (yX11_finalOf, cX11_finalOf, 3, some .int, { frames := 0, cells := 0, slots := 0, locals := 0 })
theorem mk_X11_finalOf : MK mX11_finalOf 2 := ⟨tw_in 1338 (by decide +kernel) (by decide +kernel), tw_in 112 (by decide +kernel) (by decide +kernel), by decide, by decide, by decide +kernel, by decide +kernel⟩
theorem mi_X11_finalOf : Cond.instanceMethod yX11_finalOf ∈ TW := tw_in 1337 (by decide +kernel) (by decide +kernel)
theorem me_X11_finalOf : Cond.selects RX11 yX11_finalOf yX11_finalOf ∈ TW := tw_in 91 (by decide +kernel) (by decide +kernel)
abbrev mX11_finalRange : MI := (yX11_finalRange, cX11_finalRange, 3, some .int, { frames := 5, cells := 0, slots := 0, locals := 113 })
theorem mk_X11_finalRange : MK mX11_finalRange 2 := ⟨tw_in 1334 (by decide +kernel) (by decide +kernel), tw_in 112 (by decide +kernel) (by decide +kernel), by decide, by decide, by decide +kernel, by decide +kernel⟩
theorem mi_X11_finalRange : Cond.instanceMethod yX11_finalRange ∈ TW := tw_in 1332 (by decide +kernel) (by decide +kernel)
theorem me_X11_finalRange : Cond.selects RX11 yX11_finalRange yX11_finalRange ∈ TW := tw_in 1333 (by decide +kernel) (by decide +kernel)
abbrev mX11_goes : MI := (yX11_goes, cX11_goes, 3, some .boolean, { frames := 0, cells := 0, slots := 0, locals := 0 })
theorem mk_X11_goes : MK mX11_goes 2 := ⟨tw_in 1151 (by decide +kernel) (by decide +kernel), tw_in 112 (by decide +kernel) (by decide +kernel), by decide, by decide, by decide +kernel, by decide +kernel⟩
theorem mi_X11_goes : Cond.instanceMethod yX11_goes ∈ TW := tw_in 1150 (by decide +kernel) (by decide +kernel)
theorem me_X11_goes : Cond.selects RX11 yX11_goes yX11_goes ∈ TW := tw_in 64 (by decide +kernel) (by decide +kernel)
abbrev mX11_goesOn : MI := (yX11_goesOn, cX11_goesOn, 1, none, { frames := 2, cells := 0, slots := 0, locals := 43 })
theorem mk_X11_goesOn : MK mX11_goesOn 0 := ⟨tw_in 1298 (by decide +kernel) (by decide +kernel), tw_in 112 (by decide +kernel) (by decide +kernel), by decide, by decide, by decide +kernel, by decide +kernel⟩
theorem mi_X11_goesOn : Cond.instanceMethod yX11_goesOn ∈ TW := tw_in 1297 (by decide +kernel) (by decide +kernel)
theorem me_X11_goesOn : Cond.selects RX11 yX11_goesOn yX11_goesOn ∈ TW := tw_in 86 (by decide +kernel) (by decide +kernel)
abbrev mX11_greater : MI := (yX11_greater, cX11_greater, 4, some .long, { frames := 0, cells := 0, slots := 0, locals := 0 })
theorem mk_X11_greater : MK mX11_greater 2 := ⟨tw_in 1292 (by decide +kernel) (by decide +kernel), tw_in 112 (by decide +kernel) (by decide +kernel), by decide, by decide, by decide +kernel, by decide +kernel⟩
theorem ms_X11_greater : Cond.static yX11_greater ∈ TW := tw_in 1291 (by decide +kernel) (by decide +kernel)
abbrev mX11_has : MI := (yX11_has, cX11_has, 2, some .boolean, { frames := 1, cells := 0, slots := 0, locals := 25 })
theorem mk_X11_has : MK mX11_has 2 := ⟨tw_in 1305 (by decide +kernel) (by decide +kernel), tw_in 112 (by decide +kernel) (by decide +kernel), by decide, by decide, by decide +kernel, by decide +kernel⟩
theorem ms_X11_has : Cond.static yX11_has ∈ TW := tw_in 1304 (by decide +kernel) (by decide +kernel)
abbrev mX11_here : MI := (yX11_here, cX11_here, 1, some .int, { frames := 0, cells := 0, slots := 0, locals := 0 })
theorem mk_X11_here : MK mX11_here 0 := ⟨tw_in 1171 (by decide +kernel) (by decide +kernel), tw_in 112 (by decide +kernel) (by decide +kernel), by decide, by decide, by decide +kernel, by decide +kernel⟩
theorem mi_X11_here : Cond.instanceMethod yX11_here ∈ TW := tw_in 1170 (by decide +kernel) (by decide +kernel)
theorem me_X11_here : Cond.selects RX11 yX11_here yX11_here ∈ TW := tw_in 67 (by decide +kernel) (by decide +kernel)
abbrev mX11_highOf : MI := (yX11_highOf, cX11_highOf, 2, some .long, { frames := 0, cells := 0, slots := 0, locals := 0 })
theorem mk_X11_highOf : MK mX11_highOf 1 := ⟨tw_in 1286 (by decide +kernel) (by decide +kernel), tw_in 112 (by decide +kernel) (by decide +kernel), by decide, by decide, by decide +kernel, by decide +kernel⟩
theorem mi_X11_highOf : Cond.instanceMethod yX11_highOf ∈ TW := tw_in 1285 (by decide +kernel) (by decide +kernel)
theorem me_X11_highOf : Cond.selects RX11 yX11_highOf yX11_highOf ∈ TW := tw_in 85 (by decide +kernel) (by decide +kernel)
abbrev mX11_in : MI := (yX11_in, cX11_in, 6, some .boolean, { frames := 0, cells := 0, slots := 0, locals := 0 })
theorem mk_X11_in : MK mX11_in 3 := ⟨tw_in 1147 (by decide +kernel) (by decide +kernel), tw_in 112 (by decide +kernel) (by decide +kernel), by decide, by decide, by decide +kernel, by decide +kernel⟩
theorem ms_X11_in : Cond.static yX11_in ∈ TW := tw_in 1146 (by decide +kernel) (by decide +kernel)
abbrev mX11_init : MI := (yX11_init, cX11_init, 2, none, { frames := 1, cells := 21, slots := 1461, locals := 40 })
theorem mk_X11_init : MK mX11_init 0 := ⟨tw_in 1038 (by decide +kernel) (by decide +kernel), tw_in 112 (by decide +kernel) (by decide +kernel), by decide, by decide, by decide +kernel, by decide +kernel⟩
theorem mi_X11_init : Cond.instanceMethod yX11_init ∈ TW := tw_in 1037 (by decide +kernel) (by decide +kernel)
abbrev mX11_input : MI := (yX11_input, cX11_input, 3, some .int, { frames := 2, cells := 0, slots := 0, locals := 45 })
theorem mk_X11_input : MK mX11_input 2 := ⟨tw_in 1216 (by decide +kernel) (by decide +kernel), tw_in 112 (by decide +kernel) (by decide +kernel), by decide, by decide, by decide +kernel, by decide +kernel⟩
theorem mi_X11_input : Cond.instanceMethod yX11_input ∈ TW := tw_in 1214 (by decide +kernel) (by decide +kernel)
theorem me_X11_input : Cond.selects RX11 yX11_input yX11_input ∈ TW := tw_in 1215 (by decide +kernel) (by decide +kernel)
abbrev mX11_instruction : MI := (yX11_instruction, cX11_instruction, 3, some .int, { frames := 3, cells := 0, slots := 0, locals := 67 })
theorem mk_X11_instruction : MK mX11_instruction 2 := ⟨tw_in 1245 (by decide +kernel) (by decide +kernel), tw_in 112 (by decide +kernel) (by decide +kernel), by decide, by decide, by decide +kernel, by decide +kernel⟩
theorem mi_X11_instruction : Cond.instanceMethod yX11_instruction ∈ TW := tw_in 1243 (by decide +kernel) (by decide +kernel)
theorem me_X11_instruction : Cond.selects RX11 yX11_instruction yX11_instruction ∈ TW := tw_in 1244 (by decide +kernel) (by decide +kernel)
abbrev mX11_instructions : MI := (yX11_instructions, cX11_instructions, 1, some .int, { frames := 0, cells := 0, slots := 0, locals := 0 })
theorem mk_X11_instructions : MK mX11_instructions 0 := ⟨tw_in 1241 (by decide +kernel) (by decide +kernel), tw_in 112 (by decide +kernel) (by decide +kernel), by decide, by decide, by decide +kernel, by decide +kernel⟩
theorem mi_X11_instructions : Cond.instanceMethod yX11_instructions ∈ TW := tw_in 1239 (by decide +kernel) (by decide +kernel)
theorem me_X11_instructions : Cond.selects RX11 yX11_instructions yX11_instructions ∈ TW := tw_in 1240 (by decide +kernel) (by decide +kernel)
abbrev mX11_isChecked : MI := (yX11_isChecked, cX11_isChecked, 3, some .boolean, { frames := 2, cells := 0, slots := 0, locals := 43 })
theorem mk_X11_isChecked : MK mX11_isChecked 2 := ⟨tw_in 1373 (by decide +kernel) (by decide +kernel), tw_in 112 (by decide +kernel) (by decide +kernel), by decide, by decide, by decide +kernel, by decide +kernel⟩
theorem mi_X11_isChecked : Cond.instanceMethod yX11_isChecked ∈ TW := tw_in 1372 (by decide +kernel) (by decide +kernel)
theorem me_X11_isChecked : Cond.selects RX11 yX11_isChecked yX11_isChecked ∈ TW := tw_in 97 (by decide +kernel) (by decide +kernel)
abbrev mX11_isFigure : MI := (yX11_isFigure, cX11_isFigure, 1, some .boolean, { frames := 1, cells := 0, slots := 0, locals := 25 })
theorem mk_X11_isFigure : MK mX11_isFigure 0 := ⟨tw_in 1185 (by decide +kernel) (by decide +kernel), tw_in 112 (by decide +kernel) (by decide +kernel), by decide, by decide, by decide +kernel, by decide +kernel⟩
theorem mi_X11_isFigure : Cond.instanceMethod yX11_isFigure ∈ TW := tw_in 1184 (by decide +kernel) (by decide +kernel)
theorem me_X11_isFigure : Cond.selects RX11 yX11_isFigure yX11_isFigure ∈ TW := tw_in 70 (by decide +kernel) (by decide +kernel)
abbrev mX11_isHoisted : MI := (yX11_isHoisted, cX11_isHoisted, 5, some .boolean, { frames := 3, cells := 0, slots := 0, locals := 64 })
theorem mk_X11_isHoisted : MK mX11_isHoisted 1 := ⟨tw_in 1309 (by decide +kernel) (by decide +kernel), tw_in 112 (by decide +kernel) (by decide +kernel), by decide, by decide, by decide +kernel, by decide +kernel⟩
theorem mi_X11_isHoisted : Cond.instanceMethod yX11_isHoisted ∈ TW := tw_in 1308 (by decide +kernel) (by decide +kernel)
theorem me_X11_isHoisted : Cond.selects RX11 yX11_isHoisted yX11_isHoisted ∈ TW := tw_in 88 (by decide +kernel) (by decide +kernel)
abbrev mX11_isInt : MI := (yX11_isInt, cX11_isInt, 2, some .boolean, { frames := 1, cells := 0, slots := 0, locals := 25 })
theorem mk_X11_isInt : MK mX11_isInt 1 := ⟨tw_in 1365 (by decide +kernel) (by decide +kernel), tw_in 112 (by decide +kernel) (by decide +kernel), by decide, by decide, by decide +kernel, by decide +kernel⟩
theorem ms_X11_isInt : Cond.static yX11_isInt ∈ TW := tw_in 1364 (by decide +kernel) (by decide +kernel)
abbrev mX11_isLetter : MI := (yX11_isLetter, cX11_isLetter, 1, some .boolean, { frames := 1, cells := 0, slots := 0, locals := 25 })
theorem mk_X11_isLetter : MK mX11_isLetter 0 := ⟨tw_in 1167 (by decide +kernel) (by decide +kernel), tw_in 112 (by decide +kernel) (by decide +kernel), by decide, by decide, by decide +kernel, by decide +kernel⟩
theorem mi_X11_isLetter : Cond.instanceMethod yX11_isLetter ∈ TW := tw_in 1166 (by decide +kernel) (by decide +kernel)
theorem me_X11_isLetter : Cond.selects RX11 yX11_isLetter yX11_isLetter ∈ TW := tw_in 66 (by decide +kernel) (by decide +kernel)
abbrev mX11_isLoop : MI := (yX11_isLoop, cX11_isLoop, 2, some .boolean, { frames := 2, cells := 0, slots := 0, locals := 43 })
theorem mk_X11_isLoop : MK mX11_isLoop 1 := ⟨tw_in 1229 (by decide +kernel) (by decide +kernel), tw_in 112 (by decide +kernel) (by decide +kernel), by decide, by decide, by decide +kernel, by decide +kernel⟩
theorem mi_X11_isLoop : Cond.instanceMethod yX11_isLoop ∈ TW := tw_in 1228 (by decide +kernel) (by decide +kernel)
theorem me_X11_isLoop : Cond.selects RX11 yX11_isLoop yX11_isLoop ∈ TW := tw_in 75 (by decide +kernel) (by decide +kernel)
abbrev mX11_isName : MI := (yX11_isName, cX11_isName, 1, some .boolean, { frames := 1, cells := 0, slots := 0, locals := 25 })
theorem mk_X11_isName : MK mX11_isName 1 := ⟨tw_in 1207 (by decide +kernel) (by decide +kernel), tw_in 112 (by decide +kernel) (by decide +kernel), by decide, by decide, by decide +kernel, by decide +kernel⟩
theorem ms_X11_isName : Cond.static yX11_isName ∈ TW := tw_in 1206 (by decide +kernel) (by decide +kernel)
abbrev mX11_isOne : MI := (yX11_isOne, cX11_isOne, 2, some .boolean, { frames := 1, cells := 0, slots := 0, locals := 25 })
theorem mk_X11_isOne : MK mX11_isOne 1 := ⟨tw_in 1225 (by decide +kernel) (by decide +kernel), tw_in 112 (by decide +kernel) (by decide +kernel), by decide, by decide, by decide +kernel, by decide +kernel⟩
theorem mi_X11_isOne : Cond.instanceMethod yX11_isOne ∈ TW := tw_in 1224 (by decide +kernel) (by decide +kernel)
theorem me_X11_isOne : Cond.selects RX11 yX11_isOne yX11_isOne ∈ TW := tw_in 74 (by decide +kernel) (by decide +kernel)
abbrev mX11_kind : MI := (yX11_kind, cX11_kind, 2, some .int, { frames := 1, cells := 0, slots := 0, locals := 22 })
theorem mk_X11_kind : MK mX11_kind 1 := ⟨tw_in 1233 (by decide +kernel) (by decide +kernel), tw_in 112 (by decide +kernel) (by decide +kernel), by decide, by decide, by decide +kernel, by decide +kernel⟩
theorem mi_X11_kind : Cond.instanceMethod yX11_kind ∈ TW := tw_in 1232 (by decide +kernel) (by decide +kernel)
theorem me_X11_kind : Cond.selects RX11 yX11_kind yX11_kind ∈ TW := tw_in 76 (by decide +kernel) (by decide +kernel)
abbrev mX11_laysLoops : MI := (yX11_laysLoops, cX11_laysLoops, 5, none, { frames := 2, cells := 0, slots := 0, locals := 43 })
theorem mk_X11_laysLoops : MK mX11_laysLoops 0 := ⟨tw_in 1250 (by decide +kernel) (by decide +kernel), tw_in 112 (by decide +kernel) (by decide +kernel), by decide, by decide, by decide +kernel, by decide +kernel⟩
theorem mi_X11_laysLoops : Cond.instanceMethod yX11_laysLoops ∈ TW := tw_in 1249 (by decide +kernel) (by decide +kernel)
theorem me_X11_laysLoops : Cond.selects RX11 yX11_laysLoops yX11_laysLoops ∈ TW := tw_in 78 (by decide +kernel) (by decide +kernel)
abbrev mX11_lesser : MI := (yX11_lesser, cX11_lesser, 4, some .long, { frames := 0, cells := 0, slots := 0, locals := 0 })
theorem mk_X11_lesser : MK mX11_lesser 2 := ⟨tw_in 1289 (by decide +kernel) (by decide +kernel), tw_in 112 (by decide +kernel) (by decide +kernel), by decide, by decide, by decide +kernel, by decide +kernel⟩
theorem ms_X11_lesser : Cond.static yX11_lesser ∈ TW := tw_in 1288 (by decide +kernel) (by decide +kernel)
abbrev mX11_lowOf : MI := (yX11_lowOf, cX11_lowOf, 2, some .long, { frames := 0, cells := 0, slots := 0, locals := 0 })
theorem mk_X11_lowOf : MK mX11_lowOf 1 := ⟨tw_in 1282 (by decide +kernel) (by decide +kernel), tw_in 112 (by decide +kernel) (by decide +kernel), by decide, by decide, by decide +kernel, by decide +kernel⟩
theorem mi_X11_lowOf : Cond.instanceMethod yX11_lowOf ∈ TW := tw_in 1281 (by decide +kernel) (by decide +kernel)
theorem me_X11_lowOf : Cond.selects RX11 yX11_lowOf yX11_lowOf ∈ TW := tw_in 84 (by decide +kernel) (by decide +kernel)
abbrev mX11_of : MI := (yX11_of, cX11_of, 3, some .int, { frames := 0, cells := 0, slots := 0, locals := 0 })
theorem mk_X11_of : MK mX11_of 2 := ⟨tw_in 1237 (by decide +kernel) (by decide +kernel), tw_in 112 (by decide +kernel) (by decide +kernel), by decide, by decide, by decide +kernel, by decide +kernel⟩
theorem mi_X11_of : Cond.instanceMethod yX11_of ∈ TW := tw_in 1236 (by decide +kernel) (by decide +kernel)
theorem me_X11_of : Cond.selects RX11 yX11_of yX11_of ∈ TW := tw_in 77 (by decide +kernel) (by decide +kernel)
abbrev mX11_openOnes : MI := (yX11_openOnes, cX11_openOnes, 7, some .int, { frames := 5, cells := 0, slots := 0, locals := 113 })
theorem mk_X11_openOnes : MK mX11_openOnes 3 := ⟨tw_in 1397 (by decide +kernel) (by decide +kernel), tw_in 112 (by decide +kernel) (by decide +kernel), by decide, by decide, by decide +kernel, by decide +kernel⟩
theorem mi_X11_openOnes : Cond.instanceMethod yX11_openOnes ∈ TW := tw_in 1396 (by decide +kernel) (by decide +kernel)
theorem me_X11_openOnes : Cond.selects RX11 yX11_openOnes yX11_openOnes ∈ TW := tw_in 98 (by decide +kernel) (by decide +kernel)
abbrev mX11_openWith : MI := (yX11_openWith, cX11_openWith, 4, some .int, { frames := 6, cells := 0, slots := 0, locals := 139 })
theorem mk_X11_openWith : MK mX11_openWith 3 := ⟨tw_in 1393 (by decide +kernel) (by decide +kernel), tw_in 112 (by decide +kernel) (by decide +kernel), by decide, by decide, by decide +kernel, by decide +kernel⟩
theorem mi_X11_openWith : Cond.instanceMethod yX11_openWith ∈ TW := tw_in 1391 (by decide +kernel) (by decide +kernel)
theorem me_X11_openWith : Cond.selects RX11 yX11_openWith yX11_openWith ∈ TW := tw_in 1392 (by decide +kernel) (by decide +kernel)
abbrev mX11_operand : MI := (yX11_operand, cX11_operand, 3, some .int, { frames := 2, cells := 0, slots := 0, locals := 46 })
theorem mk_X11_operand : MK mX11_operand 2 := ⟨tw_in 1258 (by decide +kernel) (by decide +kernel), tw_in 112 (by decide +kernel) (by decide +kernel), by decide, by decide, by decide +kernel, by decide +kernel⟩
theorem mi_X11_operand : Cond.instanceMethod yX11_operand ∈ TW := tw_in 1256 (by decide +kernel) (by decide +kernel)
theorem me_X11_operand : Cond.selects RX11 yX11_operand yX11_operand ∈ TW := tw_in 1257 (by decide +kernel) (by decide +kernel)
abbrev mX11_operandRead : MI := (yX11_operandRead, cX11_operandRead, 4, some .int, { frames := 2, cells := 0, slots := 0, locals := 45 })
theorem mk_X11_operandRead : MK mX11_operandRead 0 := ⟨tw_in 1181 (by decide +kernel) (by decide +kernel), tw_in 112 (by decide +kernel) (by decide +kernel), by decide, by decide, by decide +kernel, by decide +kernel⟩
theorem mi_X11_operandRead : Cond.instanceMethod yX11_operandRead ∈ TW := tw_in 1180 (by decide +kernel) (by decide +kernel)
theorem me_X11_operandRead : Cond.selects RX11 yX11_operandRead yX11_operandRead ∈ TW := tw_in 69 (by decide +kernel) (by decide +kernel)
abbrev mX11_outcome : MI := (yX11_outcome, cX11_outcome, 3, some .int, { frames := 5, cells := 0, slots := 0, locals := 113 })
theorem mk_X11_outcome : MK mX11_outcome 1 := ⟨tw_in 1350 (by decide +kernel) (by decide +kernel), tw_in 112 (by decide +kernel) (by decide +kernel), by decide, by decide, by decide +kernel, by decide +kernel⟩
theorem mi_X11_outcome : Cond.instanceMethod yX11_outcome ∈ TW := tw_in 1349 (by decide +kernel) (by decide +kernel)
theorem me_X11_outcome : Cond.selects RX11 yX11_outcome yX11_outcome ∈ TW := tw_in 92 (by decide +kernel) (by decide +kernel)
abbrev mX11_parse : MI := (yX11_parse, cX11_parse, 2, some .int, { frames := 5, cells := 0, slots := 0, locals := 113 })
theorem mk_X11_parse : MK mX11_parse 0 := ⟨tw_in 1159 (by decide +kernel) (by decide +kernel), tw_in 112 (by decide +kernel) (by decide +kernel), by decide, by decide, by decide +kernel, by decide +kernel⟩
theorem mi_X11_parse : Cond.instanceMethod yX11_parse ∈ TW := tw_in 1157 (by decide +kernel) (by decide +kernel)
theorem me_X11_parse : Cond.selects RX11 yX11_parse yX11_parse ∈ TW := tw_in 1158 (by decide +kernel) (by decide +kernel)
abbrev mX11_range : MI := (yX11_range, cX11_range, 3, some .long, { frames := 5, cells := 0, slots := 0, locals := 113 })
theorem mk_X11_range : MK mX11_range 2 := ⟨tw_in 1330 (by decide +kernel) (by decide +kernel), tw_in 112 (by decide +kernel) (by decide +kernel), by decide, by decide, by decide +kernel, by decide +kernel⟩
theorem mi_X11_range : Cond.instanceMethod yX11_range ∈ TW := tw_in 1328 (by decide +kernel) (by decide +kernel)
theorem me_X11_range : Cond.selects RX11 yX11_range yX11_range ∈ TW := tw_in 1329 (by decide +kernel) (by decide +kernel)
abbrev mX11_ranges : MI := (yX11_ranges, cX11_ranges, 14, some .boolean, { frames := 2, cells := 0, slots := 0, locals := 43 })
theorem mk_X11_ranges : MK mX11_ranges 1 := ⟨tw_in 1278 (by decide +kernel) (by decide +kernel), tw_in 112 (by decide +kernel) (by decide +kernel), by decide, by decide, by decide +kernel, by decide +kernel⟩
theorem mi_X11_ranges : Cond.instanceMethod yX11_ranges ∈ TW := tw_in 1277 (by decide +kernel) (by decide +kernel)
theorem me_X11_ranges : Cond.selects RX11 yX11_ranges yX11_ranges ∈ TW := tw_in 83 (by decide +kernel) (by decide +kernel)
abbrev mX11_readsAssignment : MI := (yX11_readsAssignment, cX11_readsAssignment, 6, some .boolean, { frames := 3, cells := 0, slots := 0, locals := 68 })
theorem mk_X11_readsAssignment : MK mX11_readsAssignment 0 := ⟨tw_in 1177 (by decide +kernel) (by decide +kernel), tw_in 112 (by decide +kernel) (by decide +kernel), by decide, by decide, by decide +kernel, by decide +kernel⟩
theorem mi_X11_readsAssignment : Cond.instanceMethod yX11_readsAssignment ∈ TW := tw_in 1176 (by decide +kernel) (by decide +kernel)
theorem me_X11_readsAssignment : Cond.selects RX11 yX11_readsAssignment yX11_readsAssignment ∈ TW := tw_in 68 (by decide +kernel) (by decide +kernel)
abbrev mX11_readsCount : MI := (yX11_readsCount, cX11_readsCount, 3, some .boolean, { frames := 2, cells := 0, slots := 0, locals := 45 })
theorem mk_X11_readsCount : MK mX11_readsCount 0 := ⟨tw_in 1195 (by decide +kernel) (by decide +kernel), tw_in 112 (by decide +kernel) (by decide +kernel), by decide, by decide, by decide +kernel, by decide +kernel⟩
theorem mi_X11_readsCount : Cond.instanceMethod yX11_readsCount ∈ TW := tw_in 1194 (by decide +kernel) (by decide +kernel)
theorem me_X11_readsCount : Cond.selects RX11 yX11_readsCount yX11_readsCount ∈ TW := tw_in 72 (by decide +kernel) (by decide +kernel)
abbrev mX11_readsNext : MI := (yX11_readsNext, cX11_readsNext, 1, some .boolean, { frames := 4, cells := 0, slots := 0, locals := 93 })
theorem mk_X11_readsNext : MK mX11_readsNext 0 := ⟨tw_in 1163 (by decide +kernel) (by decide +kernel), tw_in 112 (by decide +kernel) (by decide +kernel), by decide, by decide, by decide +kernel, by decide +kernel⟩
theorem mi_X11_readsNext : Cond.instanceMethod yX11_readsNext ∈ TW := tw_in 1162 (by decide +kernel) (by decide +kernel)
theorem me_X11_readsNext : Cond.selects RX11 yX11_readsNext yX11_readsNext ∈ TW := tw_in 65 (by decide +kernel) (by decide +kernel)
abbrev mX11_remove : MI := (yX11_remove, cX11_remove, 3, some .int, { frames := 3, cells := 0, slots := 0, locals := 64 })
theorem mk_X11_remove : MK mX11_remove 1 := ⟨tw_in 1221 (by decide +kernel) (by decide +kernel), tw_in 112 (by decide +kernel) (by decide +kernel), by decide, by decide, by decide +kernel, by decide +kernel⟩
theorem mi_X11_remove : Cond.instanceMethod yX11_remove ∈ TW := tw_in 1219 (by decide +kernel) (by decide +kernel)
theorem me_X11_remove : Cond.selects RX11 yX11_remove yX11_remove ∈ TW := tw_in 1220 (by decide +kernel) (by decide +kernel)
abbrev mX11_result : MI := (yX11_result, cX11_result, 4, some .int, { frames := 6, cells := 0, slots := 0, locals := 135 })
theorem mk_X11_result : MK mX11_result 2 := ⟨tw_in 1377 (by decide +kernel) (by decide +kernel), tw_in 112 (by decide +kernel) (by decide +kernel), by decide, by decide, by decide +kernel, by decide +kernel⟩
theorem mi_X11_result : Cond.instanceMethod yX11_result ∈ TW := tw_in 1375 (by decide +kernel) (by decide +kernel)
theorem me_X11_result : Cond.selects RX11 yX11_result yX11_result ∈ TW := tw_in 1376 (by decide +kernel) (by decide +kernel)
abbrev mX11_runs : MI := (yX11_runs, cX11_runs, 5, none, { frames := 4, cells := 0, slots := 0, locals := 87 })
theorem mk_X11_runs : MK mX11_runs 1 := ⟨tw_in 1354 (by decide +kernel) (by decide +kernel), tw_in 112 (by decide +kernel) (by decide +kernel), by decide, by decide, by decide +kernel, by decide +kernel⟩
theorem mi_X11_runs : Cond.instanceMethod yX11_runs ∈ TW := tw_in 1353 (by decide +kernel) (by decide +kernel)
theorem me_X11_runs : Cond.selects RX11 yX11_runs yX11_runs ∈ TW := tw_in 93 (by decide +kernel) (by decide +kernel)
abbrev mX11_safePower : MI := (yX11_safePower, cX11_safePower, 6, some .int, { frames := 6, cells := 0, slots := 0, locals := 139 })
theorem mk_X11_safePower : MK mX11_safePower 1 := ⟨tw_in 1401 (by decide +kernel) (by decide +kernel), tw_in 112 (by decide +kernel) (by decide +kernel), by decide, by decide, by decide +kernel, by decide +kernel⟩
theorem mi_X11_safePower : Cond.instanceMethod yX11_safePower ∈ TW := tw_in 1399 (by decide +kernel) (by decide +kernel)
theorem me_X11_safePower : Cond.selects RX11 yX11_safePower yX11_safePower ∈ TW := tw_in 1400 (by decide +kernel) (by decide +kernel)
abbrev mX11_save : MI := (yX11_save, cX11_save, 2, none, { frames := 0, cells := 0, slots := 0, locals := 0 })
theorem mk_X11_save : MK mX11_save 0 := ⟨tw_in 1200 (by decide +kernel) (by decide +kernel), tw_in 112 (by decide +kernel) (by decide +kernel), by decide, by decide, by decide +kernel, by decide +kernel⟩
theorem mi_X11_save : Cond.instanceMethod yX11_save ∈ TW := tw_in 1199 (by decide +kernel) (by decide +kernel)
theorem me_X11_save : Cond.selects RX11 yX11_save yX11_save ∈ TW := tw_in 73 (by decide +kernel) (by decide +kernel)
abbrev mX11_saving : MI := (yX11_saving, cX11_saving, 3, some .double, { frames := 6, cells := 0, slots := 0, locals := 135 })
theorem mk_X11_saving : MK mX11_saving 0 := ⟨tw_in 1389 (by decide +kernel) (by decide +kernel), tw_in 112 (by decide +kernel) (by decide +kernel), by decide, by decide, by decide +kernel, by decide +kernel⟩
theorem mi_X11_saving : Cond.instanceMethod yX11_saving ∈ TW := tw_in 1387 (by decide +kernel) (by decide +kernel)
theorem me_X11_saving : Cond.selects RX11 yX11_saving yX11_saving ∈ TW := tw_in 1388 (by decide +kernel) (by decide +kernel)
abbrev mX11_setInput : MI := (yX11_setInput, cX11_setInput, 4, some .int, { frames := 2, cells := 0, slots := 0, locals := 45 })
theorem mk_X11_setInput : MK mX11_setInput 2 := ⟨tw_in 1212 (by decide +kernel) (by decide +kernel), tw_in 112 (by decide +kernel) (by decide +kernel), by decide, by decide, by decide +kernel, by decide +kernel⟩
theorem mi_X11_setInput : Cond.instanceMethod yX11_setInput ∈ TW := tw_in 1210 (by decide +kernel) (by decide +kernel)
theorem me_X11_setInput : Cond.selects RX11 yX11_setInput yX11_setInput ∈ TW := tw_in 1211 (by decide +kernel) (by decide +kernel)
abbrev mX11_setRange : MI := (yX11_setRange, cX11_setRange, 5, some .int, { frames := 2, cells := 0, slots := 0, locals := 45 })
theorem mk_X11_setRange : MK mX11_setRange 3 := ⟨tw_in 1204 (by decide +kernel) (by decide +kernel), tw_in 112 (by decide +kernel) (by decide +kernel), by decide, by decide, by decide +kernel, by decide +kernel⟩
theorem mi_X11_setRange : Cond.instanceMethod yX11_setRange ∈ TW := tw_in 1202 (by decide +kernel) (by decide +kernel)
theorem me_X11_setRange : Cond.selects RX11 yX11_setRange yX11_setRange ∈ TW := tw_in 1203 (by decide +kernel) (by decide +kernel)
abbrev mX11_startsWalk : MI := (yX11_startsWalk, cX11_startsWalk, 1, none, { frames := 3, cells := 0, slots := 0, locals := 67 })
theorem mk_X11_startsWalk : MK mX11_startsWalk 0 := ⟨tw_in 1270 (by decide +kernel) (by decide +kernel), tw_in 112 (by decide +kernel) (by decide +kernel), by decide, by decide, by decide +kernel, by decide +kernel⟩
theorem mi_X11_startsWalk : Cond.instanceMethod yX11_startsWalk ∈ TW := tw_in 1269 (by decide +kernel) (by decide +kernel)
theorem me_X11_startsWalk : Cond.selects RX11 yX11_startsWalk yX11_startsWalk ∈ TW := tw_in 81 (by decide +kernel) (by decide +kernel)
abbrev mX11_state : MI := (yX11_state, cX11_state, 2, some .int, { frames := 5, cells := 0, slots := 0, locals := 113 })
theorem mk_X11_state : MK mX11_state 1 := ⟨tw_in 1262 (by decide +kernel) (by decide +kernel), tw_in 112 (by decide +kernel) (by decide +kernel), by decide, by decide, by decide +kernel, by decide +kernel⟩
theorem mi_X11_state : Cond.instanceMethod yX11_state ∈ TW := tw_in 1260 (by decide +kernel) (by decide +kernel)
theorem me_X11_state : Cond.selects RX11 yX11_state yX11_state ∈ TW := tw_in 1261 (by decide +kernel) (by decide +kernel)
abbrev mX11_states : MI := (yX11_states, cX11_states, 2, some .int, { frames := 5, cells := 0, slots := 0, locals := 113 })
theorem mk_X11_states : MK mX11_states 1 := ⟨tw_in 1317 (by decide +kernel) (by decide +kernel), tw_in 112 (by decide +kernel) (by decide +kernel), by decide, by decide, by decide +kernel, by decide +kernel⟩
theorem mi_X11_states : Cond.instanceMethod yX11_states ∈ TW := tw_in 1315 (by decide +kernel) (by decide +kernel)
theorem me_X11_states : Cond.selects RX11 yX11_states yX11_states ∈ TW := tw_in 1316 (by decide +kernel) (by decide +kernel)
abbrev mX11_statesFrom : MI := (yX11_statesFrom, cX11_statesFrom, 5, some .int, { frames := 1, cells := 0, slots := 0, locals := 25 })
theorem mk_X11_statesFrom : MK mX11_statesFrom 2 := ⟨tw_in 1322 (by decide +kernel) (by decide +kernel), tw_in 112 (by decide +kernel) (by decide +kernel), by decide, by decide, by decide +kernel, by decide +kernel⟩
theorem mi_X11_statesFrom : Cond.instanceMethod yX11_statesFrom ∈ TW := tw_in 1321 (by decide +kernel) (by decide +kernel)
theorem me_X11_statesFrom : Cond.selects RX11 yX11_statesFrom yX11_statesFrom ∈ TW := tw_in 90 (by decide +kernel) (by decide +kernel)
abbrev mX11_stepOf : MI := (yX11_stepOf, cX11_stepOf, 5, some .int, { frames := 1, cells := 0, slots := 0, locals := 22 })
theorem mk_X11_stepOf : MK mX11_stepOf 1 := ⟨tw_in 1313 (by decide +kernel) (by decide +kernel), tw_in 112 (by decide +kernel) (by decide +kernel), by decide, by decide, by decide +kernel, by decide +kernel⟩
theorem mi_X11_stepOf : Cond.instanceMethod yX11_stepOf ∈ TW := tw_in 1312 (by decide +kernel) (by decide +kernel)
theorem me_X11_stepOf : Cond.selects RX11 yX11_stepOf yX11_stepOf ∈ TW := tw_in 89 (by decide +kernel) (by decide +kernel)
abbrev mX11_sumsRun : MI := (yX11_sumsRun, cX11_sumsRun, 8, some .long, { frames := 6, cells := 0, slots := 0, locals := 135 })
theorem mk_X11_sumsRun : MK mX11_sumsRun 2 := ⟨tw_in 1421 (by decide +kernel) (by decide +kernel), tw_in 112 (by decide +kernel) (by decide +kernel), by decide, by decide, by decide +kernel, by decide +kernel⟩
theorem mi_X11_sumsRun : Cond.instanceMethod yX11_sumsRun ∈ TW := tw_in 1420 (by decide +kernel) (by decide +kernel)
theorem me_X11_sumsRun : Cond.selects RX11 yX11_sumsRun yX11_sumsRun ∈ TW := tw_in 99 (by decide +kernel) (by decide +kernel)
abbrev mX11_takes : MI := (yX11_takes, cX11_takes, 5, none, { frames := 0, cells := 0, slots := 0, locals := 0 })
theorem mk_X11_takes : MK mX11_takes 4 := ⟨tw_in 1191 (by decide +kernel) (by decide +kernel), tw_in 112 (by decide +kernel) (by decide +kernel), by decide, by decide, by decide +kernel, by decide +kernel⟩
theorem mi_X11_takes : Cond.instanceMethod yX11_takes ∈ TW := tw_in 1190 (by decide +kernel) (by decide +kernel)
theorem me_X11_takes : Cond.selects RX11 yX11_takes yX11_takes ∈ TW := tw_in 71 (by decide +kernel) (by decide +kernel)
abbrev mX11_told : MI := (yX11_told, cX11_told, 3, some .int, { frames := 2, cells := 0, slots := 0, locals := 43 })
theorem mk_X11_told : MK mX11_told 2 := ⟨tw_in 1254 (by decide +kernel) (by decide +kernel), tw_in 112 (by decide +kernel) (by decide +kernel), by decide, by decide, by decide +kernel, by decide +kernel⟩
theorem mi_X11_told : Cond.instanceMethod yX11_told ∈ TW := tw_in 1253 (by decide +kernel) (by decide +kernel)
theorem me_X11_told : Cond.selects RX11 yX11_told yX11_told ∈ TW := tw_in 79 (by decide +kernel) (by decide +kernel)
abbrev mX11_undo : MI := (yX11_undo, cX11_undo, 2, some .int, { frames := 1, cells := 0, slots := 0, locals := 22 })
theorem mk_X11_undo : MK mX11_undo 0 := ⟨tw_in 1411 (by decide +kernel) (by decide +kernel), tw_in 112 (by decide +kernel) (by decide +kernel), by decide, by decide, by decide +kernel, by decide +kernel⟩
theorem mi_X11_undo : Cond.instanceMethod yX11_undo ∈ TW := tw_in 1409 (by decide +kernel) (by decide +kernel)
theorem me_X11_undo : Cond.selects RX11 yX11_undo yX11_undo ∈ TW := tw_in 1410 (by decide +kernel) (by decide +kernel)
abbrev mX11_valueOf : MI := (yX11_valueOf, cX11_valueOf, 2, some .long, { frames := 0, cells := 0, slots := 0, locals := 0 })
theorem mk_X11_valueOf : MK mX11_valueOf 1 := ⟨tw_in 1362 (by decide +kernel) (by decide +kernel), tw_in 112 (by decide +kernel) (by decide +kernel), by decide, by decide, by decide +kernel, by decide +kernel⟩
theorem mi_X11_valueOf : Cond.instanceMethod yX11_valueOf ∈ TW := tw_in 1361 (by decide +kernel) (by decide +kernel)
theorem me_X11_valueOf : Cond.selects RX11 yX11_valueOf yX11_valueOf ∈ TW := tw_in 95 (by decide +kernel) (by decide +kernel)
abbrev mX11_walks : MI := (yX11_walks, cX11_walks, 1, some .boolean, { frames := 0, cells := 0, slots := 0, locals := 0 })
theorem mk_X11_walks : MK mX11_walks 0 := ⟨tw_in 1274 (by decide +kernel) (by decide +kernel), tw_in 112 (by decide +kernel) (by decide +kernel), by decide, by decide, by decide +kernel, by decide +kernel⟩
theorem mi_X11_walks : Cond.instanceMethod yX11_walks ∈ TW := tw_in 1273 (by decide +kernel) (by decide +kernel)
theorem me_X11_walks : Cond.selects RX11 yX11_walks yX11_walks ∈ TW := tw_in 82 (by decide +kernel) (by decide +kernel)
abbrev mX1_advance : MI := (yX1_advance, cX1_advance, 3, none, { frames := 0, cells := 0, slots := 0, locals := 0 })
theorem mk_X1_advance : MK mX1_advance 1 := ⟨tw_in 614 (by decide +kernel) (by decide +kernel), tw_in 109 (by decide +kernel) (by decide +kernel), by decide, by decide, by decide +kernel, by decide +kernel⟩
theorem mi_X1_advance : Cond.instanceMethod yX1_advance ∈ TW := tw_in 613 (by decide +kernel) (by decide +kernel)
theorem me_X1_advance : Cond.selects RX1 yX1_advance yX1_advance ∈ TW := tw_in 29 (by decide +kernel) (by decide +kernel)
abbrev mX1_init : MI := (yX1_init, cX1_init, 1, none, { frames := 1, cells := 1, slots := 2, locals := 40 })
theorem mk_X1_init : MK mX1_init 0 := ⟨tw_in 294 (by decide +kernel) (by decide +kernel), tw_in 109 (by decide +kernel) (by decide +kernel), by decide, by decide, by decide +kernel, by decide +kernel⟩
theorem mi_X1_init : Cond.instanceMethod yX1_init ∈ TW := tw_in 293 (by decide +kernel) (by decide +kernel)
abbrev mX2_dropOldest : MI := (yX2_dropOldest, cX2_dropOldest, 3, none, { frames := 0, cells := 0, slots := 0, locals := 0 })
theorem mk_X2_dropOldest : MK mX2_dropOldest 0 := ⟨tw_in 520 (by decide +kernel) (by decide +kernel), tw_in 107 (by decide +kernel) (by decide +kernel), by decide, by decide, by decide +kernel, by decide +kernel⟩
theorem mi_X2_dropOldest : Cond.instanceMethod yX2_dropOldest ∈ TW := tw_in 519 (by decide +kernel) (by decide +kernel)
theorem me_X2_dropOldest : Cond.selects RX2 yX2_dropOldest yX2_dropOldest ∈ TW := tw_in 13 (by decide +kernel) (by decide +kernel)
abbrev mX2_init : MI := (yX2_init, cX2_init, 2, none, { frames := 3, cells := 49, slots := 868, locals := 81 })
theorem mk_X2_init : MK mX2_init 0 := ⟨tw_in 271 (by decide +kernel) (by decide +kernel), tw_in 107 (by decide +kernel) (by decide +kernel), by decide, by decide, by decide +kernel, by decide +kernel⟩
theorem mi_X2_init : Cond.instanceMethod yX2_init ∈ TW := tw_in 270 (by decide +kernel) (by decide +kernel)
abbrev mX2_restore : MI := (yX2_restore, cX2_restore, 2, none, { frames := 3, cells := 0, slots := 0, locals := 82 })
theorem mk_X2_restore : MK mX2_restore 1 := ⟨tw_in 1033 (by decide +kernel) (by decide +kernel), tw_in 107 (by decide +kernel) (by decide +kernel), by decide, by decide, by decide +kernel, by decide +kernel⟩
theorem mi_X2_restore : Cond.instanceMethod yX2_restore ∈ TW := tw_in 1032 (by decide +kernel) (by decide +kernel)
theorem me_X2_restore : Cond.selects RX2 yX2_restore yX2_restore ∈ TW := tw_in 63 (by decide +kernel) (by decide +kernel)
abbrev mX2_save : MI := (yX2_save, cX2_save, 2, none, { frames := 3, cells := 0, slots := 0, locals := 82 })
theorem mk_X2_save : MK mX2_save 1 := ⟨tw_in 516 (by decide +kernel) (by decide +kernel), tw_in 107 (by decide +kernel) (by decide +kernel), by decide, by decide, by decide +kernel, by decide +kernel⟩
theorem mi_X2_save : Cond.instanceMethod yX2_save ∈ TW := tw_in 515 (by decide +kernel) (by decide +kernel)
theorem me_X2_save : Cond.selects RX2 yX2_save yX2_save ∈ TW := tw_in 12 (by decide +kernel) (by decide +kernel)
abbrev mX3_copyFrom : MI := (yX3_copyFrom, cX3_copyFrom, 2, none, { frames := 1, cells := 0, slots := 0, locals := 40 })
theorem mk_X3_copyFrom : MK mX3_copyFrom 1 := ⟨tw_in 535 (by decide +kernel) (by decide +kernel), tw_in 106 (by decide +kernel) (by decide +kernel), by decide, by decide, by decide +kernel, by decide +kernel⟩
theorem mi_X3_copyFrom : Cond.instanceMethod yX3_copyFrom ∈ TW := tw_in 534 (by decide +kernel) (by decide +kernel)
theorem me_X3_copyFrom : Cond.selects RX3 yX3_copyFrom yX3_copyFrom ∈ TW := tw_in 16 (by decide +kernel) (by decide +kernel)
abbrev mX3_init : MI := (yX3_init, cX3_init, 2, none, { frames := 1, cells := 3, slots := 24, locals := 40 })
theorem mk_X3_init : MK mX3_init 0 := ⟨tw_in 240 (by decide +kernel) (by decide +kernel), tw_in 106 (by decide +kernel) (by decide +kernel), by decide, by decide, by decide +kernel, by decide +kernel⟩
theorem mi_X3_init : Cond.instanceMethod yX3_init ∈ TW := tw_in 239 (by decide +kernel) (by decide +kernel)
abbrev mX3_limit : MI := (yX3_limit, cX3_limit, 4, some .int, { frames := 0, cells := 0, slots := 0, locals := 0 })
theorem mk_X3_limit : MK mX3_limit 3 := ⟨tw_in 884 (by decide +kernel) (by decide +kernel), tw_in 106 (by decide +kernel) (by decide +kernel), by decide, by decide, by decide +kernel, by decide +kernel⟩
theorem mi_X3_limit : Cond.instanceMethod yX3_limit ∈ TW := tw_in 883 (by decide +kernel) (by decide +kernel)
theorem me_X3_limit : Cond.selects RX3 yX3_limit yX3_limit ∈ TW := tw_in 55 (by decide +kernel) (by decide +kernel)
abbrev mX3_narrowTo : MI := (yX3_narrowTo, cX3_narrowTo, 2, none, { frames := 1, cells := 0, slots := 0, locals := 40 })
theorem mk_X3_narrowTo : MK mX3_narrowTo 1 := ⟨tw_in 1010 (by decide +kernel) (by decide +kernel), tw_in 106 (by decide +kernel) (by decide +kernel), by decide, by decide, by decide +kernel, by decide +kernel⟩
theorem mi_X3_narrowTo : Cond.instanceMethod yX3_narrowTo ∈ TW := tw_in 1009 (by decide +kernel) (by decide +kernel)
theorem me_X3_narrowTo : Cond.selects RX3 yX3_narrowTo yX3_narrowTo ∈ TW := tw_in 60 (by decide +kernel) (by decide +kernel)
abbrev mX4_init : MI := (yX4_init, cX4_init, 3, none, { frames := 1, cells := 1, slots := 2, locals := 40 })
theorem mk_X4_init : MK mX4_init 2 := ⟨tw_in 207 (by decide +kernel) (by decide +kernel), tw_in 104 (by decide +kernel) (by decide +kernel), by decide, by decide, by decide +kernel, by decide +kernel⟩
theorem mi_X4_init : Cond.instanceMethod yX4_init ∈ TW := tw_in 206 (by decide +kernel) (by decide +kernel)
abbrev mX4_isDigit : MI := (yX4_isDigit, cX4_isDigit, 1, some .boolean, { frames := 0, cells := 0, slots := 0, locals := 0 })
theorem mk_X4_isDigit : MK mX4_isDigit 1 := ⟨tw_in 485 (by decide +kernel) (by decide +kernel), tw_in 104 (by decide +kernel) (by decide +kernel), by decide, by decide, by decide +kernel, by decide +kernel⟩
theorem ms_X4_isDigit : Cond.static yX4_isDigit ∈ TW := tw_in 484 (by decide +kernel) (by decide +kernel)
abbrev mX4_isLetter : MI := (yX4_isLetter, cX4_isLetter, 1, some .boolean, { frames := 0, cells := 0, slots := 0, locals := 0 })
theorem mk_X4_isLetter : MK mX4_isLetter 1 := ⟨tw_in 470 (by decide +kernel) (by decide +kernel), tw_in 104 (by decide +kernel) (by decide +kernel), by decide, by decide, by decide +kernel, by decide +kernel⟩
theorem ms_X4_isLetter : Cond.static yX4_isLetter ∈ TW := tw_in 469 (by decide +kernel) (by decide +kernel)
abbrev mX4_kindOf : MI := (yX4_kindOf, cX4_kindOf, 1, some .int, { frames := 0, cells := 0, slots := 0, locals := 0 })
theorem mk_X4_kindOf : MK mX4_kindOf 1 := ⟨tw_in 492 (by decide +kernel) (by decide +kernel), tw_in 104 (by decide +kernel) (by decide +kernel), by decide, by decide, by decide +kernel, by decide +kernel⟩
theorem ms_X4_kindOf : Cond.static yX4_kindOf ∈ TW := tw_in 491 (by decide +kernel) (by decide +kernel)
abbrev mX4_read : MI := (yX4_read, cX4_read, 2, some .int, { frames := 5, cells := 0, slots := 0, locals := 112 })
theorem mk_X4_read : MK mX4_read 0 := ⟨tw_in 459 (by decide +kernel) (by decide +kernel), tw_in 104 (by decide +kernel) (by decide +kernel), by decide, by decide, by decide +kernel, by decide +kernel⟩
theorem mi_X4_read : Cond.instanceMethod yX4_read ∈ TW := tw_in 458 (by decide +kernel) (by decide +kernel)
theorem me_X4_read : Cond.selects RX4 yX4_read yX4_read ∈ TW := tw_in 0 (by decide +kernel) (by decide +kernel)
abbrev mX4_readAssignment : MI := (yX4_readAssignment, cX4_readAssignment, 5, none, { frames := 3, cells := 0, slots := 0, locals := 67 })
theorem mk_X4_readAssignment : MK mX4_readAssignment 0 := ⟨tw_in 474 (by decide +kernel) (by decide +kernel), tw_in 104 (by decide +kernel) (by decide +kernel), by decide, by decide, by decide +kernel, by decide +kernel⟩
theorem mi_X4_readAssignment : Cond.instanceMethod yX4_readAssignment ∈ TW := tw_in 473 (by decide +kernel) (by decide +kernel)
theorem me_X4_readAssignment : Cond.selects RX4 yX4_readAssignment yX4_readAssignment ∈ TW := tw_in 3 (by decide +kernel) (by decide +kernel)
abbrev mX4_readLoopBegin : MI := (yX4_readLoopBegin, cX4_readLoopBegin, 3, none, { frames := 2, cells := 0, slots := 0, locals := 44 })
theorem mk_X4_readLoopBegin : MK mX4_readLoopBegin 0 := ⟨tw_in 500 (by decide +kernel) (by decide +kernel), tw_in 104 (by decide +kernel) (by decide +kernel), by decide, by decide, by decide +kernel, by decide +kernel⟩
theorem mi_X4_readLoopBegin : Cond.instanceMethod yX4_readLoopBegin ∈ TW := tw_in 499 (by decide +kernel) (by decide +kernel)
theorem me_X4_readLoopBegin : Cond.selects RX4 yX4_readLoopBegin yX4_readLoopBegin ∈ TW := tw_in 8 (by decide +kernel) (by decide +kernel)
abbrev mX4_readLoopEnd : MI := (yX4_readLoopEnd, cX4_readLoopEnd, 2, none, { frames := 1, cells := 0, slots := 0, locals := 25 })
theorem mk_X4_readLoopEnd : MK mX4_readLoopEnd 0 := ⟨tw_in 504 (by decide +kernel) (by decide +kernel), tw_in 104 (by decide +kernel) (by decide +kernel), by decide, by decide, by decide +kernel, by decide +kernel⟩
theorem mi_X4_readLoopEnd : Cond.instanceMethod yX4_readLoopEnd ∈ TW := tw_in 503 (by decide +kernel) (by decide +kernel)
theorem me_X4_readLoopEnd : Cond.selects RX4 yX4_readLoopEnd yX4_readLoopEnd ∈ TW := tw_in 9 (by decide +kernel) (by decide +kernel)
abbrev mX4_readNumber : MI := (yX4_readNumber, cX4_readNumber, 4, some .int, { frames := 1, cells := 0, slots := 0, locals := 21 })
theorem mk_X4_readNumber : MK mX4_readNumber 1 := ⟨tw_in 489 (by decide +kernel) (by decide +kernel), tw_in 104 (by decide +kernel) (by decide +kernel), by decide, by decide, by decide +kernel, by decide +kernel⟩
theorem mi_X4_readNumber : Cond.instanceMethod yX4_readNumber ∈ TW := tw_in 488 (by decide +kernel) (by decide +kernel)
theorem me_X4_readNumber : Cond.selects RX4 yX4_readNumber yX4_readNumber ∈ TW := tw_in 6 (by decide +kernel) (by decide +kernel)
abbrev mX4_readOperand : MI := (yX4_readOperand, cX4_readOperand, 4, some .int, { frames := 2, cells := 0, slots := 0, locals := 44 })
theorem mk_X4_readOperand : MK mX4_readOperand 0 := ⟨tw_in 482 (by decide +kernel) (by decide +kernel), tw_in 104 (by decide +kernel) (by decide +kernel), by decide, by decide, by decide +kernel, by decide +kernel⟩
theorem mi_X4_readOperand : Cond.instanceMethod yX4_readOperand ∈ TW := tw_in 481 (by decide +kernel) (by decide +kernel)
theorem me_X4_readOperand : Cond.selects RX4 yX4_readOperand yX4_readOperand ∈ TW := tw_in 5 (by decide +kernel) (by decide +kernel)
abbrev mX4_readStatement : MI := (yX4_readStatement, cX4_readStatement, 2, none, { frames := 4, cells := 0, slots := 0, locals := 91 })
theorem mk_X4_readStatement : MK mX4_readStatement 0 := ⟨tw_in 463 (by decide +kernel) (by decide +kernel), tw_in 104 (by decide +kernel) (by decide +kernel), by decide, by decide, by decide +kernel, by decide +kernel⟩
theorem mi_X4_readStatement : Cond.instanceMethod yX4_readStatement ∈ TW := tw_in 462 (by decide +kernel) (by decide +kernel)
theorem me_X4_readStatement : Cond.selects RX4 yX4_readStatement yX4_readStatement ∈ TW := tw_in 1 (by decide +kernel) (by decide +kernel)
abbrev mX4_take : MI := (yX4_take, cX4_take, 2, some .boolean, { frames := 1, cells := 0, slots := 0, locals := 21 })
theorem mk_X4_take : MK mX4_take 1 := ⟨tw_in 478 (by decide +kernel) (by decide +kernel), tw_in 104 (by decide +kernel) (by decide +kernel), by decide, by decide, by decide +kernel, by decide +kernel⟩
theorem mi_X4_take : Cond.instanceMethod yX4_take ∈ TW := tw_in 477 (by decide +kernel) (by decide +kernel)
theorem me_X4_take : Cond.selects RX4 yX4_take yX4_take ∈ TW := tw_in 4 (by decide +kernel) (by decide +kernel)
abbrev mX5_canCover : MI := (yX5_canCover, cX5_canCover, 6, some .boolean, { frames := 2, cells := 0, slots := 0, locals := 43 })
theorem mk_X5_canCover : MK mX5_canCover 4 := ⟨tw_in 625 (by decide +kernel) (by decide +kernel), tw_in 110 (by decide +kernel) (by decide +kernel), by decide, by decide, by decide +kernel, by decide +kernel⟩
theorem ms_X5_canCover : Cond.static yX5_canCover ∈ TW := tw_in 624 (by decide +kernel) (by decide +kernel)
abbrev mX5_canMoveOut : MI := (yX5_canMoveOut, cX5_canMoveOut, 7, some .boolean, { frames := 2, cells := 0, slots := 0, locals := 43 })
theorem mk_X5_canMoveOut : MK mX5_canMoveOut 2 := ⟨tw_in 657 (by decide +kernel) (by decide +kernel), tw_in 110 (by decide +kernel) (by decide +kernel), by decide, by decide, by decide +kernel, by decide +kernel⟩
theorem mi_X5_canMoveOut : Cond.instanceMethod yX5_canMoveOut ∈ TW := tw_in 656 (by decide +kernel) (by decide +kernel)
theorem me_X5_canMoveOut : Cond.selects RX5 yX5_canMoveOut yX5_canMoveOut ∈ TW := tw_in 37 (by decide +kernel) (by decide +kernel)
abbrev mX5_findCover : MI := (yX5_findCover, cX5_findCover, 4, some .int, { frames := 3, cells := 0, slots := 0, locals := 68 })
theorem mk_X5_findCover : MK mX5_findCover 3 := ⟨tw_in 621 (by decide +kernel) (by decide +kernel), tw_in 110 (by decide +kernel) (by decide +kernel), by decide, by decide, by decide +kernel, by decide +kernel⟩
theorem ms_X5_findCover : Cond.static yX5_findCover ∈ TW := tw_in 620 (by decide +kernel) (by decide +kernel)
abbrev mX5_findState : MI := (yX5_findState, cX5_findState, 4, some .int, { frames := 3, cells := 0, slots := 0, locals := 69 })
theorem mk_X5_findState : MK mX5_findState 3 := ⟨tw_in 649 (by decide +kernel) (by decide +kernel), tw_in 110 (by decide +kernel) (by decide +kernel), by decide, by decide, by decide +kernel, by decide +kernel⟩
theorem mi_X5_findState : Cond.instanceMethod yX5_findState ∈ TW := tw_in 648 (by decide +kernel) (by decide +kernel)
theorem me_X5_findState : Cond.selects RX5 yX5_findState yX5_findState ∈ TW := tw_in 35 (by decide +kernel) (by decide +kernel)
abbrev mX5_init : MI := (yX5_init, cX5_init, 1, none, { frames := 1, cells := 3, slots := 90, locals := 40 })
theorem mk_X5_init : MK mX5_init 0 := ⟨tw_in 357 (by decide +kernel) (by decide +kernel), tw_in 110 (by decide +kernel) (by decide +kernel), by decide, by decide, by decide +kernel, by decide +kernel⟩
theorem mi_X5_init : Cond.instanceMethod yX5_init ∈ TW := tw_in 356 (by decide +kernel) (by decide +kernel)
abbrev mX5_make : MI := (yX5_make, cX5_make, 4, none, { frames := 4, cells := 0, slots := 0, locals := 92 })
theorem mk_X5_make : MK mX5_make 2 := ⟨tw_in 618 (by decide +kernel) (by decide +kernel), tw_in 110 (by decide +kernel) (by decide +kernel), by decide, by decide, by decide +kernel, by decide +kernel⟩
theorem mi_X5_make : Cond.instanceMethod yX5_make ∈ TW := tw_in 617 (by decide +kernel) (by decide +kernel)
theorem me_X5_make : Cond.selects RX5 yX5_make yX5_make ∈ TW := tw_in 30 (by decide +kernel) (by decide +kernel)
abbrev mX5_standsBetween : MI := (yX5_standsBetween, cX5_standsBetween, 5, some .boolean, { frames := 2, cells := 0, slots := 0, locals := 43 })
theorem mk_X5_standsBetween : MK mX5_standsBetween 4 := ⟨tw_in 641 (by decide +kernel) (by decide +kernel), tw_in 110 (by decide +kernel) (by decide +kernel), by decide, by decide, by decide +kernel, by decide +kernel⟩
theorem ms_X5_standsBetween : Cond.static yX5_standsBetween ∈ TW := tw_in 640 (by decide +kernel) (by decide +kernel)
abbrev mX6_add : MI := (yX6_add, cX6_add, 6, none, { frames := 0, cells := 0, slots := 0, locals := 0 })
theorem mk_X6_add : MK mX6_add 5 := ⟨tw_in 496 (by decide +kernel) (by decide +kernel), tw_in 103 (by decide +kernel) (by decide +kernel), by decide, by decide, by decide +kernel, by decide +kernel⟩
theorem mi_X6_add : Cond.instanceMethod yX6_add ∈ TW := tw_in 495 (by decide +kernel) (by decide +kernel)
theorem me_X6_add : Cond.selects RX6 yX6_add yX6_add ∈ TW := tw_in 7 (by decide +kernel) (by decide +kernel)
abbrev mX6_assigns : MI := (yX6_assigns, cX6_assigns, 3, some .boolean, { frames := 1, cells := 0, slots := 0, locals := 21 })
theorem mk_X6_assigns : MK mX6_assigns 2 := ⟨tw_in 633 (by decide +kernel) (by decide +kernel), tw_in 103 (by decide +kernel) (by decide +kernel), by decide, by decide, by decide +kernel, by decide +kernel⟩
theorem mi_X6_assigns : Cond.instanceMethod yX6_assigns ∈ TW := tw_in 632 (by decide +kernel) (by decide +kernel)
theorem me_X6_assigns : Cond.selects RX6 yX6_assigns yX6_assigns ∈ TW := tw_in 32 (by decide +kernel) (by decide +kernel)
abbrev mX6_besides : MI := (yX6_besides, cX6_besides, 3, some .int, { frames := 0, cells := 0, slots := 0, locals := 0 })
theorem mk_X6_besides : MK mX6_besides 2 := ⟨tw_in 629 (by decide +kernel) (by decide +kernel), tw_in 103 (by decide +kernel) (by decide +kernel), by decide, by decide, by decide +kernel, by decide +kernel⟩
theorem mi_X6_besides : Cond.instanceMethod yX6_besides ∈ TW := tw_in 628 (by decide +kernel) (by decide +kernel)
theorem me_X6_besides : Cond.selects RX6 yX6_besides yX6_besides ∈ TW := tw_in 31 (by decide +kernel) (by decide +kernel)
abbrev mX6_copyFrom : MI := (yX6_copyFrom, cX6_copyFrom, 2, none, { frames := 1, cells := 0, slots := 0, locals := 40 })
theorem mk_X6_copyFrom : MK mX6_copyFrom 1 := ⟨tw_in 528 (by decide +kernel) (by decide +kernel), tw_in 103 (by decide +kernel) (by decide +kernel), by decide, by decide, by decide +kernel, by decide +kernel⟩
theorem mi_X6_copyFrom : Cond.instanceMethod yX6_copyFrom ∈ TW := tw_in 527 (by decide +kernel) (by decide +kernel)
theorem me_X6_copyFrom : Cond.selects RX6 yX6_copyFrom yX6_copyFrom ∈ TW := tw_in 15 (by decide +kernel) (by decide +kernel)
abbrev mX6_hasCheck : MI := (yX6_hasCheck, cX6_hasCheck, 2, some .boolean, { frames := 0, cells := 0, slots := 0, locals := 0 })
theorem mk_X6_hasCheck : MK mX6_hasCheck 1 := ⟨tw_in 653 (by decide +kernel) (by decide +kernel), tw_in 103 (by decide +kernel) (by decide +kernel), by decide, by decide, by decide +kernel, by decide +kernel⟩
theorem mi_X6_hasCheck : Cond.instanceMethod yX6_hasCheck ∈ TW := tw_in 652 (by decide +kernel) (by decide +kernel)
theorem me_X6_hasCheck : Cond.selects RX6 yX6_hasCheck yX6_hasCheck ∈ TW := tw_in 36 (by decide +kernel) (by decide +kernel)
abbrev mX6_init : MI := (yX6_init, cX6_init, 1, none, { frames := 1, cells := 6, slots := 180, locals := 40 })
theorem mk_X6_init : MK mX6_init 0 := ⟨tw_in 149 (by decide +kernel) (by decide +kernel), tw_in 103 (by decide +kernel) (by decide +kernel), by decide, by decide, by decide +kernel, by decide +kernel⟩
theorem mi_X6_init : Cond.instanceMethod yX6_init ∈ TW := tw_in 148 (by decide +kernel) (by decide +kernel)
abbrev mX6_innermostLoopOf : MI := (yX6_innermostLoopOf, cX6_innermostLoopOf, 3, some .int, { frames := 0, cells := 0, slots := 0, locals := 0 })
theorem mk_X6_innermostLoopOf : MK mX6_innermostLoopOf 1 := ⟨tw_in 661 (by decide +kernel) (by decide +kernel), tw_in 103 (by decide +kernel) (by decide +kernel), by decide, by decide, by decide +kernel, by decide +kernel⟩
theorem mi_X6_innermostLoopOf : Cond.instanceMethod yX6_innermostLoopOf ∈ TW := tw_in 660 (by decide +kernel) (by decide +kernel)
theorem me_X6_innermostLoopOf : Cond.selects RX6 yX6_innermostLoopOf yX6_innermostLoopOf ∈ TW := tw_in 38 (by decide +kernel) (by decide +kernel)
abbrev mX6_isLoopEdge : MI := (yX6_isLoopEdge, cX6_isLoopEdge, 2, some .boolean, { frames := 0, cells := 0, slots := 0, locals := 0 })
theorem mk_X6_isLoopEdge : MK mX6_isLoopEdge 1 := ⟨tw_in 570 (by decide +kernel) (by decide +kernel), tw_in 103 (by decide +kernel) (by decide +kernel), by decide, by decide, by decide +kernel, by decide +kernel⟩
theorem mi_X6_isLoopEdge : Cond.instanceMethod yX6_isLoopEdge ∈ TW := tw_in 569 (by decide +kernel) (by decide +kernel)
theorem me_X6_isLoopEdge : Cond.selects RX6 yX6_isLoopEdge yX6_isLoopEdge ∈ TW := tw_in 22 (by decide +kernel) (by decide +kernel)
abbrev mX6_pair : MI := (yX6_pair, cX6_pair, 3, none, { frames := 0, cells := 0, slots := 0, locals := 0 })
theorem mk_X6_pair : MK mX6_pair 2 := ⟨tw_in 508 (by decide +kernel) (by decide +kernel), tw_in 103 (by decide +kernel) (by decide +kernel), by decide, by decide, by decide +kernel, by decide +kernel⟩
theorem mi_X6_pair : Cond.instanceMethod yX6_pair ∈ TW := tw_in 507 (by decide +kernel) (by decide +kernel)
theorem me_X6_pair : Cond.selects RX6 yX6_pair yX6_pair ∈ TW := tw_in 10 (by decide +kernel) (by decide +kernel)
abbrev mX6_takeOut : MI := (yX6_takeOut, cX6_takeOut, 3, none, { frames := 0, cells := 0, slots := 0, locals := 0 })
theorem mk_X6_takeOut : MK mX6_takeOut 1 := ⟨tw_in 922 (by decide +kernel) (by decide +kernel), tw_in 103 (by decide +kernel) (by decide +kernel), by decide, by decide, by decide +kernel, by decide +kernel⟩
theorem mi_X6_takeOut : Cond.instanceMethod yX6_takeOut ∈ TW := tw_in 921 (by decide +kernel) (by decide +kernel)
theorem me_X6_takeOut : Cond.selects RX6 yX6_takeOut yX6_takeOut ∈ TW := tw_in 58 (by decide +kernel) (by decide +kernel)
abbrev mX6_uses : MI := (yX6_uses, cX6_uses, 3, some .boolean, { frames := 0, cells := 0, slots := 0, locals := 0 })
theorem mk_X6_uses : MK mX6_uses 2 := ⟨tw_in 645 (by decide +kernel) (by decide +kernel), tw_in 103 (by decide +kernel) (by decide +kernel), by decide, by decide, by decide +kernel, by decide +kernel⟩
theorem mi_X6_uses : Cond.instanceMethod yX6_uses ∈ TW := tw_in 644 (by decide +kernel) (by decide +kernel)
theorem me_X6_uses : Cond.selects RX6 yX6_uses yX6_uses ∈ TW := tw_in 34 (by decide +kernel) (by decide +kernel)
abbrev mX7_begin : MI := (yX7_begin, cX7_begin, 3, none, { frames := 0, cells := 0, slots := 0, locals := 0 })
theorem mk_X7_begin : MK mX7_begin 1 := ⟨tw_in 677 (by decide +kernel) (by decide +kernel), tw_in 111 (by decide +kernel) (by decide +kernel), by decide, by decide, by decide +kernel, by decide +kernel⟩
theorem mi_X7_begin : Cond.instanceMethod yX7_begin ∈ TW := tw_in 676 (by decide +kernel) (by decide +kernel)
theorem me_X7_begin : Cond.selects RX7 yX7_begin yX7_begin ∈ TW := tw_in 41 (by decide +kernel) (by decide +kernel)
abbrev mX7_checkAhead : MI := (yX7_checkAhead, cX7_checkAhead, 10, none, { frames := 2, cells := 0, slots := 0, locals := 41 })
theorem mk_X7_checkAhead : MK mX7_checkAhead 3 := ⟨tw_in 707 (by decide +kernel) (by decide +kernel), tw_in 111 (by decide +kernel) (by decide +kernel), by decide, by decide, by decide +kernel, by decide +kernel⟩
theorem mi_X7_checkAhead : Cond.instanceMethod yX7_checkAhead ∈ TW := tw_in 706 (by decide +kernel) (by decide +kernel)
theorem me_X7_checkAhead : Cond.selects RX7 yX7_checkAhead yX7_checkAhead ∈ TW := tw_in 47 (by decide +kernel) (by decide +kernel)
abbrev mX7_compute : MI := (yX7_compute, cX7_compute, 6, some .long, { frames := 2, cells := 0, slots := 0, locals := 41 })
theorem mk_X7_compute : MK mX7_compute 3 := ⟨tw_in 692 (by decide +kernel) (by decide +kernel), tw_in 111 (by decide +kernel) (by decide +kernel), by decide, by decide, by decide +kernel, by decide +kernel⟩
theorem mi_X7_compute : Cond.instanceMethod yX7_compute ∈ TW := tw_in 691 (by decide +kernel) (by decide +kernel)
theorem me_X7_compute : Cond.selects RX7 yX7_compute yX7_compute ∈ TW := tw_in 44 (by decide +kernel) (by decide +kernel)
abbrev mX7_execute : MI := (yX7_execute, cX7_execute, 5, none, { frames := 3, cells := 0, slots := 0, locals := 66 })
theorem mk_X7_execute : MK mX7_execute 2 := ⟨tw_in 688 (by decide +kernel) (by decide +kernel), tw_in 111 (by decide +kernel) (by decide +kernel), by decide, by decide, by decide +kernel, by decide +kernel⟩
theorem mi_X7_execute : Cond.instanceMethod yX7_execute ∈ TW := tw_in 687 (by decide +kernel) (by decide +kernel)
theorem me_X7_execute : Cond.selects RX7 yX7_execute yX7_execute ∈ TW := tw_in 43 (by decide +kernel) (by decide +kernel)
abbrev mX7_goOptimized : MI := (yX7_goOptimized, cX7_goOptimized, 5, none, { frames := 4, cells := 0, slots := 0, locals := 90 })
theorem mk_X7_goOptimized : MK mX7_goOptimized 3 := ⟨tw_in 703 (by decide +kernel) (by decide +kernel), tw_in 111 (by decide +kernel) (by decide +kernel), by decide, by decide, by decide +kernel, by decide +kernel⟩
theorem mi_X7_goOptimized : Cond.instanceMethod yX7_goOptimized ∈ TW := tw_in 702 (by decide +kernel) (by decide +kernel)
theorem me_X7_goOptimized : Cond.selects RX7 yX7_goOptimized yX7_goOptimized ∈ TW := tw_in 46 (by decide +kernel) (by decide +kernel)
abbrev mX7_goPlain : MI := (yX7_goPlain, cX7_goPlain, 4, none, { frames := 4, cells := 0, slots := 0, locals := 90 })
theorem mk_X7_goPlain : MK mX7_goPlain 2 := ⟨tw_in 673 (by decide +kernel) (by decide +kernel), tw_in 111 (by decide +kernel) (by decide +kernel), by decide, by decide, by decide +kernel, by decide +kernel⟩
theorem mi_X7_goPlain : Cond.instanceMethod yX7_goPlain ∈ TW := tw_in 672 (by decide +kernel) (by decide +kernel)
theorem me_X7_goPlain : Cond.selects RX7 yX7_goPlain yX7_goPlain ∈ TW := tw_in 40 (by decide +kernel) (by decide +kernel)
abbrev mX7_init : MI := (yX7_init, cX7_init, 1, none, { frames := 2, cells := 4, slots := 42, locals := 60 })
theorem mk_X7_init : MK mX7_init 0 := ⟨tw_in 376 (by decide +kernel) (by decide +kernel), tw_in 111 (by decide +kernel) (by decide +kernel), by decide, by decide, by decide +kernel, by decide +kernel⟩
theorem mi_X7_init : Cond.instanceMethod yX7_init ∈ TW := tw_in 375 (by decide +kernel) (by decide +kernel)
abbrev mX7_isGoingOn : MI := (yX7_isGoingOn, cX7_isGoingOn, 2, some .boolean, { frames := 0, cells := 0, slots := 0, locals := 0 })
theorem mk_X7_isGoingOn : MK mX7_isGoingOn 1 := ⟨tw_in 683 (by decide +kernel) (by decide +kernel), tw_in 111 (by decide +kernel) (by decide +kernel), by decide, by decide, by decide +kernel, by decide +kernel⟩
theorem mi_X7_isGoingOn : Cond.instanceMethod yX7_isGoingOn ∈ TW := tw_in 682 (by decide +kernel) (by decide +kernel)
theorem me_X7_isGoingOn : Cond.selects RX7 yX7_isGoingOn yX7_isGoingOn ∈ TW := tw_in 42 (by decide +kernel) (by decide +kernel)
abbrev mX7_valueOf : MI := (yX7_valueOf, cX7_valueOf, 2, some .long, { frames := 1, cells := 0, slots := 0, locals := 20 })
theorem mk_X7_valueOf : MK mX7_valueOf 1 := ⟨tw_in 696 (by decide +kernel) (by decide +kernel), tw_in 111 (by decide +kernel) (by decide +kernel), by decide, by decide, by decide +kernel, by decide +kernel⟩
theorem mi_X7_valueOf : Cond.instanceMethod yX7_valueOf ∈ TW := tw_in 695 (by decide +kernel) (by decide +kernel)
theorem me_X7_valueOf : Cond.selects RX7 yX7_valueOf yX7_valueOf ∈ TW := tw_in 45 (by decide +kernel) (by decide +kernel)
abbrev mX8_copyFrom : MI := (yX8_copyFrom, cX8_copyFrom, 2, none, { frames := 2, cells := 0, slots := 0, locals := 61 })
theorem mk_X8_copyFrom : MK mX8_copyFrom 1 := ⟨tw_in 524 (by decide +kernel) (by decide +kernel), tw_in 105 (by decide +kernel) (by decide +kernel), by decide, by decide, by decide +kernel, by decide +kernel⟩
theorem mi_X8_copyFrom : Cond.instanceMethod yX8_copyFrom ∈ TW := tw_in 523 (by decide +kernel) (by decide +kernel)
theorem me_X8_copyFrom : Cond.selects RX8 yX8_copyFrom yX8_copyFrom ∈ TW := tw_in 14 (by decide +kernel) (by decide +kernel)
abbrev mX8_init : MI := (yX8_init, cX8_init, 1, none, { frames := 2, cells := 11, slots := 214, locals := 61 })
theorem mk_X8_init : MK mX8_init 0 := ⟨tw_in 232 (by decide +kernel) (by decide +kernel), tw_in 105 (by decide +kernel) (by decide +kernel), by decide, by decide, by decide +kernel, by decide +kernel⟩
theorem mi_X8_init : Cond.instanceMethod yX8_init ∈ TW := tw_in 231 (by decide +kernel) (by decide +kernel)
abbrev mX9_add : MI := (yX9_add, cX9_add, 2, none, { frames := 0, cells := 0, slots := 0, locals := 0 })
theorem mk_X9_add : MK mX9_add 1 := ⟨tw_in 849 (by decide +kernel) (by decide +kernel), tw_in 102 (by decide +kernel) (by decide +kernel), by decide, by decide, by decide +kernel, by decide +kernel⟩
theorem mi_X9_add : Cond.instanceMethod yX9_add ∈ TW := tw_in 848 (by decide +kernel) (by decide +kernel)
theorem me_X9_add : Cond.selects RX9 yX9_add yX9_add ∈ TW := tw_in 54 (by decide +kernel) (by decide +kernel)
abbrev mX9_at : MI := (yX9_at, cX9_at, 2, some .int, { frames := 0, cells := 0, slots := 0, locals := 0 })
theorem mk_X9_at : MK mX9_at 1 := ⟨tw_in 467 (by decide +kernel) (by decide +kernel), tw_in 102 (by decide +kernel) (by decide +kernel), by decide, by decide, by decide +kernel, by decide +kernel⟩
theorem mi_X9_at : Cond.instanceMethod yX9_at ∈ TW := tw_in 466 (by decide +kernel) (by decide +kernel)
theorem me_X9_at : Cond.selects RX9 yX9_at yX9_at ∈ TW := tw_in 2 (by decide +kernel) (by decide +kernel)
abbrev mX9_init : MI := (yX9_init, cX9_init, 1, none, { frames := 1, cells := 1, slots := 200, locals := 40 })
theorem mk_X9_init : MK mX9_init 0 := ⟨tw_in 133 (by decide +kernel) (by decide +kernel), tw_in 102 (by decide +kernel) (by decide +kernel), by decide, by decide, by decide +kernel, by decide +kernel⟩
theorem mi_X9_init : Cond.instanceMethod yX9_init ∈ TW := tw_in 132 (by decide +kernel) (by decide +kernel)
theorem lk_RX10_9 : LK RX10 9 yX9_init := Or.inr ⟨"OverflowGuards", tw_in 131 (by decide +kernel) (by decide +kernel)⟩
theorem lk_RX10_18 : LK RX10 18 yX6_init := Or.inr ⟨"OverflowGuards", tw_in 147 (by decide +kernel) (by decide +kernel)⟩
theorem lk_RX10_25 : LK RX10 25 yX4_init := Or.inr ⟨"OverflowGuards", tw_in 205 (by decide +kernel) (by decide +kernel)⟩
theorem lk_RX10_34 : LK RX10 34 yX8_init := Or.inr ⟨"OverflowGuards", tw_in 230 (by decide +kernel) (by decide +kernel)⟩
theorem lk_RX10_41 : LK RX10 41 yX2_init := Or.inr ⟨"OverflowGuards", tw_in 269 (by decide +kernel) (by decide +kernel)⟩
theorem lk_RX10_48 : LK RX10 48 yX0_init := Or.inr ⟨"OverflowGuards", tw_in 286 (by decide +kernel) (by decide +kernel)⟩
theorem lk_RX10_55 : LK RX10 55 yX5_init := Or.inr ⟨"OverflowGuards", tw_in 355 (by decide +kernel) (by decide +kernel)⟩
theorem lk_RX10_62 : LK RX10 62 yX7_init := Or.inr ⟨"OverflowGuards", tw_in 374 (by decide +kernel) (by decide +kernel)⟩
theorem lk_RX10_79 : LK RX10 79 yX3_init := Or.inr ⟨"OverflowGuards", tw_in 404 (by decide +kernel) (by decide +kernel)⟩
theorem lk_RX10_106 : LK RX10 106 yX9_add := Or.inr ⟨"OverflowGuards", tw_in 846 (by decide +kernel) (by decide +kernel)⟩
theorem lk_RX10_110 : LK RX10 110 yX4_read := Or.inr ⟨"OverflowGuards", tw_in 456 (by decide +kernel) (by decide +kernel)⟩
theorem lk_RX10_114 : LK RX10 114 yX10_saveForUndo := Or.inl (tw_in 509 (by decide +kernel) (by decide +kernel))
theorem lk_RX10_120 : LK RX10 120 yX6_copyFrom := Or.inr ⟨"OverflowGuards", tw_in 541 (by decide +kernel) (by decide +kernel)⟩
theorem lk_RX10_127 : LK RX10 127 yX10_requireVariable := Or.inl (tw_in 858 (by decide +kernel) (by decide +kernel))
theorem lk_RX10_130 : LK RX10 130 yX10_requireOrder := Or.inl (tw_in 877 (by decide +kernel) (by decide +kernel))
theorem lk_RX10_137 : LK RX10 137 yX3_limit := Or.inr ⟨"OverflowGuards", tw_in 881 (by decide +kernel) (by decide +kernel)⟩
theorem lk_RX10_155 : LK RX10 155 yX10_requireInstruction := Or.inl (tw_in 908 (by decide +kernel) (by decide +kernel))
theorem lk_RX10_158 : LK RX10 158 yX10_requireNoLoopEdge := Or.inl (tw_in 913 (by decide +kernel) (by decide +kernel))
theorem lk_RX10_161 : LK RX10 161 yX6_takeOut := Or.inr ⟨"OverflowGuards", tw_in 919 (by decide +kernel) (by decide +kernel)⟩
theorem lk_RX10_184 : LK RX10 184 yX10_freshenAnalysis := Or.inl (tw_in 550 (by decide +kernel) (by decide +kernel))
theorem lk_RX10_202 : LK RX10 202 yX0_finalHigh := Or.inr ⟨"OverflowGuards", tw_in 746 (by decide +kernel) (by decide +kernel)⟩
theorem lk_RX10_206 : LK RX10 206 yX0_finalLow := Or.inr ⟨"OverflowGuards", tw_in 742 (by decide +kernel) (by decide +kernel)⟩
theorem lk_RX10_212 : LK RX10 212 yX10_freshenRuns := Or.inl (tw_in 666 (by decide +kernel) (by decide +kernel))
theorem lk_RX10_215 : LK RX10 215 yX10_outcomeOf := Or.inl (tw_in 709 (by decide +kernel) (by decide +kernel))
theorem lk_RX10_231 : LK RX10 231 yX10_openChecksWith := Or.inl (tw_in 988 (by decide +kernel) (by decide +kernel))
theorem lk_RX10_234 : LK RX10 234 yX3_narrowTo := Or.inr ⟨"OverflowGuards", tw_in 1007 (by decide +kernel) (by decide +kernel)⟩
theorem lk_RX10_240 : LK RX10 240 yJ9_min_f86c9 := Or.inl (tw_in 1012 (by decide +kernel) (by decide +kernel))
theorem lk_RX10_246 : LK RX10 246 yX10_failsWith := Or.inl (tw_in 1013 (by decide +kernel) (by decide +kernel))
theorem lk_RX10_250 : LK RX10 250 yX10_canFailBetween := Or.inl (tw_in 1017 (by decide +kernel) (by decide +kernel))
theorem lk_RX10_262 : LK RX10 262 yX2_restore := Or.inr ⟨"OverflowGuards", tw_in 1030 (by decide +kernel) (by decide +kernel)⟩
theorem lk_RX10_266 : LK RX10 266 yX10_forgetAnswers := Or.inl (tw_in 537 (by decide +kernel) (by decide +kernel))
theorem lk_RX10_271 : LK RX10 271 yX10_mixed := Or.inl (tw_in 730 (by decide +kernel) (by decide +kernel))
theorem lk_RX10_274 : LK RX10 274 yX10_mixedInstruction := Or.inl (tw_in 734 (by decide +kernel) (by decide +kernel))
theorem lk_RX10_278 : LK RX10 278 yX10_mixedVariable := Or.inl (tw_in 738 (by decide +kernel) (by decide +kernel))
theorem lk_RX10_281 : LK RX10 281 yX10_mixedRun := Or.inl (tw_in 750 (by decide +kernel) (by decide +kernel))
theorem lk_RX10_296 : LK RX10 296 yX6_isLoopEdge := Or.inr ⟨"OverflowGuards", tw_in 917 (by decide +kernel) (by decide +kernel)⟩
theorem lk_RX10_302 : LK RX10 302 yX2_save := Or.inr ⟨"OverflowGuards", tw_in 513 (by decide +kernel) (by decide +kernel)⟩
theorem lk_RX10_305 : LK RX10 305 yX0_go := Or.inr ⟨"OverflowGuards", tw_in 554 (by decide +kernel) (by decide +kernel)⟩
theorem lk_RX10_309 : LK RX10 309 yX5_make := Or.inr ⟨"OverflowGuards", tw_in 615 (by decide +kernel) (by decide +kernel)⟩
theorem lk_RX10_313 : LK RX10 313 yX7_goPlain := Or.inr ⟨"OverflowGuards", tw_in 670 (by decide +kernel) (by decide +kernel)⟩
theorem lk_RX10_316 : LK RX10 316 yX7_goOptimized := Or.inr ⟨"OverflowGuards", tw_in 700 (by decide +kernel) (by decide +kernel)⟩
theorem lk_RX10_320 : LK RX10 320 yX3_copyFrom := Or.inr ⟨"OverflowGuards", tw_in 992 (by decide +kernel) (by decide +kernel)⟩
theorem lk_RX0_11 : LK RX0 11 yX1_init := Or.inr ⟨"OverflowGuards", tw_in 292 (by decide +kernel) (by decide +kernel)⟩
theorem lk_RX0_60 : LK RX0 60 yX0_begin := Or.inl (tw_in 558 (by decide +kernel) (by decide +kernel))
theorem lk_RX0_73 : LK RX0 73 yX6_isLoopEdge := Or.inr ⟨"OverflowGuards", tw_in 567 (by decide +kernel) (by decide +kernel)⟩
theorem lk_RX0_77 : LK RX0 77 yX0_execute := Or.inl (tw_in 571 (by decide +kernel) (by decide +kernel))
theorem lk_RX0_81 : LK RX0 81 yX1_advance := Or.inr ⟨"OverflowGuards", tw_in 611 (by decide +kernel) (by decide +kernel)⟩
theorem lk_RX0_91 : LK RX0 91 yX0_assign := Or.inl (tw_in 562 (by decide +kernel) (by decide +kernel))
theorem lk_RX0_104 : LK RX0 104 yX0_compute := Or.inl (tw_in 575 (by decide +kernel) (by decide +kernel))
theorem lk_RX0_108 : LK RX0 108 yX0_note := Or.inl (tw_in 600 (by decide +kernel) (by decide +kernel))
theorem lk_RX0_112 : LK RX0 112 yX10_isInt := Or.inr ⟨"OverflowGuards", tw_in 604 (by decide +kernel) (by decide +kernel)⟩
theorem lk_RX0_120 : LK RX0 120 yJ9_max_f86c9 := Or.inl (tw_in 597 (by decide +kernel) (by decide +kernel))
theorem lk_RX0_128 : LK RX0 128 yJ9_min_f86c9 := Or.inl (tw_in 594 (by decide +kernel) (by decide +kernel))
theorem lk_RX0_134 : LK RX0 134 yX0_lowOf := Or.inl (tw_in 579 (by decide +kernel) (by decide +kernel))
theorem lk_RX0_138 : LK RX0 138 yX0_highOf := Or.inl (tw_in 586 (by decide +kernel) (by decide +kernel))
theorem lk_RX0_141 : LK RX0 141 yX0_multiply := Or.inl (tw_in 590 (by decide +kernel) (by decide +kernel))
theorem lk_RX0_145 : LK RX0 145 yX10_isVariable := Or.inr ⟨"OverflowGuards", tw_in 583 (by decide +kernel) (by decide +kernel)⟩
theorem lk_RX2_21 : LK RX2 21 yX8_init := Or.inr ⟨"OverflowGuards", tw_in 275 (by decide +kernel) (by decide +kernel)⟩
theorem lk_RX2_22 : LK RX2 22 yX2_dropOldest := Or.inl (tw_in 517 (by decide +kernel) (by decide +kernel))
theorem lk_RX2_25 : LK RX2 25 yX8_copyFrom := Or.inr ⟨"OverflowGuards", tw_in 521 (by decide +kernel) (by decide +kernel)⟩
theorem lk_RX4_43 : LK RX4 43 yX4_readStatement := Or.inl (tw_in 460 (by decide +kernel) (by decide +kernel))
theorem lk_RX4_46 : LK RX4 46 yX9_at := Or.inr ⟨"OverflowGuards", tw_in 464 (by decide +kernel) (by decide +kernel)⟩
theorem lk_RX4_49 : LK RX4 49 yX4_isLetter := Or.inl (tw_in 468 (by decide +kernel) (by decide +kernel))
theorem lk_RX4_53 : LK RX4 53 yX4_readAssignment := Or.inl (tw_in 471 (by decide +kernel) (by decide +kernel))
theorem lk_RX4_56 : LK RX4 56 yX4_isDigit := Or.inl (tw_in 483 (by decide +kernel) (by decide +kernel))
theorem lk_RX4_59 : LK RX4 59 yX4_readLoopBegin := Or.inl (tw_in 497 (by decide +kernel) (by decide +kernel))
theorem lk_RX4_62 : LK RX4 62 yX4_readLoopEnd := Or.inl (tw_in 501 (by decide +kernel) (by decide +kernel))
theorem lk_RX4_65 : LK RX4 65 yX4_take := Or.inl (tw_in 475 (by decide +kernel) (by decide +kernel))
theorem lk_RX4_69 : LK RX4 69 yX4_readOperand := Or.inl (tw_in 479 (by decide +kernel) (by decide +kernel))
theorem lk_RX4_73 : LK RX4 73 yX4_kindOf := Or.inl (tw_in 490 (by decide +kernel) (by decide +kernel))
theorem lk_RX4_76 : LK RX4 76 yX6_add := Or.inr ⟨"OverflowGuards", tw_in 493 (by decide +kernel) (by decide +kernel)⟩
theorem lk_RX4_80 : LK RX4 80 yX4_readNumber := Or.inl (tw_in 486 (by decide +kernel) (by decide +kernel))
theorem lk_RX4_83 : LK RX4 83 yX6_pair := Or.inr ⟨"OverflowGuards", tw_in 505 (by decide +kernel) (by decide +kernel)⟩
theorem lk_RX5_28 : LK RX5 28 yX5_findCover := Or.inl (tw_in 619 (by decide +kernel) (by decide +kernel))
theorem lk_RX5_32 : LK RX5 32 yX5_findState := Or.inl (tw_in 646 (by decide +kernel) (by decide +kernel))
theorem lk_RX5_35 : LK RX5 35 yX6_hasCheck := Or.inr ⟨"OverflowGuards", tw_in 650 (by decide +kernel) (by decide +kernel)⟩
theorem lk_RX5_47 : LK RX5 47 yX5_canMoveOut := Or.inl (tw_in 654 (by decide +kernel) (by decide +kernel))
theorem lk_RX5_54 : LK RX5 54 yX6_isLoopEdge := Or.inr ⟨"OverflowGuards", tw_in 622 (by decide +kernel) (by decide +kernel)⟩
theorem lk_RX5_57 : LK RX5 57 yX5_canCover := Or.inl (tw_in 623 (by decide +kernel) (by decide +kernel))
theorem lk_RX5_61 : LK RX5 61 yX5_standsBetween := Or.inl (tw_in 639 (by decide +kernel) (by decide +kernel))
theorem lk_RX5_67 : LK RX5 67 yX6_besides := Or.inr ⟨"OverflowGuards", tw_in 626 (by decide +kernel) (by decide +kernel)⟩
theorem lk_RX5_71 : LK RX5 71 yX6_assigns := Or.inr ⟨"OverflowGuards", tw_in 630 (by decide +kernel) (by decide +kernel)⟩
theorem lk_RX5_78 : LK RX5 78 yX0_isNeverNegative := Or.inr ⟨"OverflowGuards", tw_in 635 (by decide +kernel) (by decide +kernel)⟩
theorem lk_RX5_85 : LK RX5 85 yX6_uses := Or.inr ⟨"OverflowGuards", tw_in 642 (by decide +kernel) (by decide +kernel)⟩
theorem lk_RX5_88 : LK RX5 88 yX6_innermostLoopOf := Or.inr ⟨"OverflowGuards", tw_in 658 (by decide +kernel) (by decide +kernel)⟩
theorem lk_RX6_40 : LK RX6 40 yX6_isLoopEdge := Or.inl (tw_in 634 (by decide +kernel) (by decide +kernel))
theorem lk_RX7_11 : LK RX7 11 yX1_init := Or.inr ⟨"OverflowGuards", tw_in 379 (by decide +kernel) (by decide +kernel)⟩
theorem lk_RX7_36 : LK RX7 36 yX7_begin := Or.inl (tw_in 674 (by decide +kernel) (by decide +kernel))
theorem lk_RX7_45 : LK RX7 45 yX6_hasCheck := Or.inr ⟨"OverflowGuards", tw_in 678 (by decide +kernel) (by decide +kernel)⟩
theorem lk_RX7_50 : LK RX7 50 yX7_isGoingOn := Or.inl (tw_in 680 (by decide +kernel) (by decide +kernel))
theorem lk_RX7_57 : LK RX7 57 yX6_isLoopEdge := Or.inr ⟨"OverflowGuards", tw_in 684 (by decide +kernel) (by decide +kernel)⟩
theorem lk_RX7_60 : LK RX7 60 yX7_execute := Or.inl (tw_in 685 (by decide +kernel) (by decide +kernel))
theorem lk_RX7_64 : LK RX7 64 yX1_advance := Or.inr ⟨"OverflowGuards", tw_in 699 (by decide +kernel) (by decide +kernel)⟩
theorem lk_RX7_77 : LK RX7 77 yX7_checkAhead := Or.inl (tw_in 704 (by decide +kernel) (by decide +kernel))
theorem lk_RX7_95 : LK RX7 95 yX6_besides := Or.inr ⟨"OverflowGuards", tw_in 708 (by decide +kernel) (by decide +kernel)⟩
theorem lk_RX7_99 : LK RX7 99 yX7_valueOf := Or.inl (tw_in 693 (by decide +kernel) (by decide +kernel))
theorem lk_RX7_103 : LK RX7 103 yX10_isInt := Or.inr ⟨"OverflowGuards", tw_in 698 (by decide +kernel) (by decide +kernel)⟩
theorem lk_RX7_113 : LK RX7 113 yX7_compute := Or.inl (tw_in 689 (by decide +kernel) (by decide +kernel))
theorem lk_RX7_117 : LK RX7 117 yX10_isVariable := Or.inr ⟨"OverflowGuards", tw_in 697 (by decide +kernel) (by decide +kernel)⟩
theorem lk_RX8_9 : LK RX8 9 yX6_init := Or.inr ⟨"OverflowGuards", tw_in 235 (by decide +kernel) (by decide +kernel)⟩
theorem lk_RX8_18 : LK RX8 18 yX3_init := Or.inr ⟨"OverflowGuards", tw_in 238 (by decide +kernel) (by decide +kernel)⟩
theorem lk_RX8_23 : LK RX8 23 yX6_copyFrom := Or.inr ⟨"OverflowGuards", tw_in 525 (by decide +kernel) (by decide +kernel)⟩
theorem lk_RX8_27 : LK RX8 27 yX3_copyFrom := Or.inr ⟨"OverflowGuards", tw_in 532 (by decide +kernel) (by decide +kernel)⟩
theorem lk_RL_7 : LK RL 7 yX10_append := Or.inl (tw_in 758 (by decide +kernel) (by decide +kernel))
theorem lk_RL_17 : LK RL 17 yX10_setRange := Or.inl (tw_in 854 (by decide +kernel) (by decide +kernel))
theorem lk_RL_23 : LK RL 23 yX10_setInput := Or.inl (tw_in 888 (by decide +kernel) (by decide +kernel))
theorem lk_RL_27 : LK RL 27 yX10_input := Or.inl (tw_in 896 (by decide +kernel) (by decide +kernel))
theorem lk_RL_30 : LK RL 30 yX10_remove := Or.inl (tw_in 904 (by decide +kernel) (by decide +kernel))
theorem lk_RL_33 : LK RL 33 yX10_instruction := Or.inl (tw_in 926 (by decide +kernel) (by decide +kernel))
theorem lk_RL_36 : LK RL 36 yX10_operand := Or.inl (tw_in 934 (by decide +kernel) (by decide +kernel))
theorem lk_RL_40 : LK RL 40 yX10_state := Or.inl (tw_in 941 (by decide +kernel) (by decide +kernel))
theorem lk_RL_43 : LK RL 43 yX10_states := Or.inl (tw_in 948 (by decide +kernel) (by decide +kernel))
theorem lk_RL_46 : LK RL 46 yX10_coveredBy := Or.inl (tw_in 956 (by decide +kernel) (by decide +kernel))
theorem lk_RL_49 : LK RL 49 yX10_range := Or.inl (tw_in 963 (by decide +kernel) (by decide +kernel))
theorem lk_RL_53 : LK RL 53 yX10_finalRange := Or.inl (tw_in 970 (by decide +kernel) (by decide +kernel))
theorem lk_RL_56 : LK RL 56 yX10_result := Or.inl (tw_in 977 (by decide +kernel) (by decide +kernel))
theorem lk_RL_59 : LK RL 59 yX10_openWith := Or.inl (tw_in 984 (by decide +kernel) (by decide +kernel))
theorem lk_RL_62 : LK RL 62 yX10_safePower := Or.inl (tw_in 996 (by decide +kernel) (by decide +kernel))
theorem lk_RL_65 : LK RL 65 yX10_failingInput := Or.inl (tw_in 1003 (by decide +kernel) (by decide +kernel))
theorem lk_RL_68 : LK RL 68 yX10_undo := Or.inl (tw_in 1025 (by decide +kernel) (by decide +kernel))
theorem lk_RL_72 : LK RL 72 yX10_init := Or.inl (tw_in 123 (by decide +kernel) (by decide +kernel))
theorem lk_RL_75 : LK RL 75 yX11_init := Or.inl (tw_in 1036 (by decide +kernel) (by decide +kernel))
theorem lk_RL_76 : LK RL 76 yL_append := Or.inl (tw_in 753 (by decide +kernel) (by decide +kernel))
theorem lk_RL_81 : LK RL 81 yX11_append := Or.inl (tw_in 1140 (by decide +kernel) (by decide +kernel))
theorem lk_RL_82 : LK RL 82 yX10_clearText := Or.inl (tw_in 448 (by decide +kernel) (by decide +kernel))
theorem lk_RL_85 : LK RL 85 yX11_clearText := Or.inl (tw_in 1152 (by decide +kernel) (by decide +kernel))
theorem lk_RL_86 : LK RL 86 yX10_parse := Or.inl (tw_in 452 (by decide +kernel) (by decide +kernel))
theorem lk_RL_89 : LK RL 89 yX11_parse := Or.inl (tw_in 1156 (by decide +kernel) (by decide +kernel))
theorem lk_RL_90 : LK RL 90 yL_setRange := Or.inl (tw_in 850 (by decide +kernel) (by decide +kernel))
theorem lk_RL_93 : LK RL 93 yX11_setRange := Or.inl (tw_in 1201 (by decide +kernel) (by decide +kernel))
theorem lk_RL_94 : LK RL 94 yL_setInput := Or.inl (tw_in 885 (by decide +kernel) (by decide +kernel))
theorem lk_RL_97 : LK RL 97 yX11_setInput := Or.inl (tw_in 1209 (by decide +kernel) (by decide +kernel))
theorem lk_RL_98 : LK RL 98 yL_input := Or.inl (tw_in 893 (by decide +kernel) (by decide +kernel))
theorem lk_RL_100 : LK RL 100 yX11_input := Or.inl (tw_in 1213 (by decide +kernel) (by decide +kernel))
theorem lk_RL_101 : LK RL 101 yL_remove := Or.inl (tw_in 901 (by decide +kernel) (by decide +kernel))
theorem lk_RL_103 : LK RL 103 yX11_remove := Or.inl (tw_in 1218 (by decide +kernel) (by decide +kernel))
theorem lk_RL_104 : LK RL 104 yX10_instructions := Or.inl (tw_in 542 (by decide +kernel) (by decide +kernel))
theorem lk_RL_107 : LK RL 107 yX11_instructions := Or.inl (tw_in 1238 (by decide +kernel) (by decide +kernel))
theorem lk_RL_108 : LK RL 108 yL_instruction := Or.inl (tw_in 923 (by decide +kernel) (by decide +kernel))
theorem lk_RL_110 : LK RL 110 yX11_instruction := Or.inl (tw_in 1242 (by decide +kernel) (by decide +kernel))
theorem lk_RL_111 : LK RL 111 yL_operand := Or.inl (tw_in 931 (by decide +kernel) (by decide +kernel))
theorem lk_RL_114 : LK RL 114 yX11_operand := Or.inl (tw_in 1255 (by decide +kernel) (by decide +kernel))
theorem lk_RL_115 : LK RL 115 yL_state := Or.inl (tw_in 938 (by decide +kernel) (by decide +kernel))
theorem lk_RL_117 : LK RL 117 yX11_state := Or.inl (tw_in 1259 (by decide +kernel) (by decide +kernel))
theorem lk_RL_118 : LK RL 118 yL_states := Or.inl (tw_in 945 (by decide +kernel) (by decide +kernel))
theorem lk_RL_120 : LK RL 120 yX11_states := Or.inl (tw_in 1314 (by decide +kernel) (by decide +kernel))
theorem lk_RL_121 : LK RL 121 yL_coveredBy := Or.inl (tw_in 953 (by decide +kernel) (by decide +kernel))
theorem lk_RL_123 : LK RL 123 yX11_coveredBy := Or.inl (tw_in 1323 (by decide +kernel) (by decide +kernel))
theorem lk_RL_124 : LK RL 124 yL_range := Or.inl (tw_in 960 (by decide +kernel) (by decide +kernel))
theorem lk_RL_126 : LK RL 126 yX11_range := Or.inl (tw_in 1327 (by decide +kernel) (by decide +kernel))
theorem lk_RL_127 : LK RL 127 yL_finalRange := Or.inl (tw_in 967 (by decide +kernel) (by decide +kernel))
theorem lk_RL_129 : LK RL 129 yX11_finalRange := Or.inl (tw_in 1331 (by decide +kernel) (by decide +kernel))
theorem lk_RL_130 : LK RL 130 yX10_completes := Or.inl (tw_in 546 (by decide +kernel) (by decide +kernel))
theorem lk_RL_134 : LK RL 134 yX11_completes := Or.inl (tw_in 1339 (by decide +kernel) (by decide +kernel))
theorem lk_RL_135 : LK RL 135 yX10_failure := Or.inl (tw_in 662 (by decide +kernel) (by decide +kernel))
theorem lk_RL_139 : LK RL 139 yX11_failure := Or.inl (tw_in 1343 (by decide +kernel) (by decide +kernel))
theorem lk_RL_140 : LK RL 140 yL_result := Or.inl (tw_in 974 (by decide +kernel) (by decide +kernel))
theorem lk_RL_142 : LK RL 142 yX11_result := Or.inl (tw_in 1374 (by decide +kernel) (by decide +kernel))
theorem lk_RL_143 : LK RL 143 yX10_checks := Or.inl (tw_in 713 (by decide +kernel) (by decide +kernel))
theorem lk_RL_146 : LK RL 146 yX11_checks := Or.inl (tw_in 1378 (by decide +kernel) (by decide +kernel))
theorem lk_RL_147 : LK RL 147 yX10_executed := Or.inl (tw_in 717 (by decide +kernel) (by decide +kernel))
theorem lk_RL_150 : LK RL 150 yX11_executed := Or.inl (tw_in 1382 (by decide +kernel) (by decide +kernel))
theorem lk_RL_151 : LK RL 151 yX10_saving := Or.inl (tw_in 721 (by decide +kernel) (by decide +kernel))
theorem lk_RL_155 : LK RL 155 yX11_saving := Or.inl (tw_in 1386 (by decide +kernel) (by decide +kernel))
theorem lk_RL_156 : LK RL 156 yL_openWith := Or.inl (tw_in 981 (by decide +kernel) (by decide +kernel))
theorem lk_RL_158 : LK RL 158 yX11_openWith := Or.inl (tw_in 1390 (by decide +kernel) (by decide +kernel))
theorem lk_RL_159 : LK RL 159 yL_safePower := Or.inl (tw_in 993 (by decide +kernel) (by decide +kernel))
theorem lk_RL_161 : LK RL 161 yX11_safePower := Or.inl (tw_in 1398 (by decide +kernel) (by decide +kernel))
theorem lk_RL_162 : LK RL 162 yL_failingInput := Or.inl (tw_in 1000 (by decide +kernel) (by decide +kernel))
theorem lk_RL_164 : LK RL 164 yX11_failingInput := Or.inl (tw_in 1402 (by decide +kernel) (by decide +kernel))
theorem lk_RL_165 : LK RL 165 yL_undo := Or.inl (tw_in 1022 (by decide +kernel) (by decide +kernel))
theorem lk_RL_168 : LK RL 168 yX11_undo := Or.inl (tw_in 1408 (by decide +kernel) (by decide +kernel))
theorem lk_RL_169 : LK RL 169 yX10_digest := Or.inl (tw_in 725 (by decide +kernel) (by decide +kernel))
theorem lk_RL_173 : LK RL 173 yX11_digest := Or.inl (tw_in 1412 (by decide +kernel) (by decide +kernel))
theorem lk_RX11_82 : LK RX11 82 yX11_of := Or.inl (tw_in 1234 (by decide +kernel) (by decide +kernel))
theorem lk_RX11_86 : LK RX11 86 yX11_kind := Or.inl (tw_in 1230 (by decide +kernel) (by decide +kernel))
theorem lk_RX11_90 : LK RX11 90 yX11_in := Or.inl (tw_in 1145 (by decide +kernel) (by decide +kernel))
theorem lk_RX11_101 : LK RX11 101 yX11_goes := Or.inl (tw_in 1148 (by decide +kernel) (by decide +kernel))
theorem lk_RX11_108 : LK RX11 108 yX11_here := Or.inl (tw_in 1168 (by decide +kernel) (by decide +kernel))
theorem lk_RX11_123 : LK RX11 123 yX11_isLetter := Or.inl (tw_in 1164 (by decide +kernel) (by decide +kernel))
theorem lk_RX11_127 : LK RX11 127 yX11_isFigure := Or.inl (tw_in 1182 (by decide +kernel) (by decide +kernel))
theorem lk_RX11_130 : LK RX11 130 yX11_operandRead := Or.inl (tw_in 1178 (by decide +kernel) (by decide +kernel))
theorem lk_RX11_133 : LK RX11 133 yX11_takes := Or.inl (tw_in 1188 (by decide +kernel) (by decide +kernel))
theorem lk_RX11_142 : LK RX11 142 yX11_readsAssignment := Or.inl (tw_in 1174 (by decide +kernel) (by decide +kernel))
theorem lk_RX11_145 : LK RX11 145 yX11_readsCount := Or.inl (tw_in 1192 (by decide +kernel) (by decide +kernel))
theorem lk_RX11_148 : LK RX11 148 yX11_readsNext := Or.inl (tw_in 1160 (by decide +kernel) (by decide +kernel))
theorem lk_RX11_151 : LK RX11 151 yX11_save := Or.inl (tw_in 1197 (by decide +kernel) (by decide +kernel))
theorem lk_RX11_154 : LK RX11 154 yX11_isName := Or.inl (tw_in 1205 (by decide +kernel) (by decide +kernel))
theorem lk_RX11_160 : LK RX11 160 yX11_isOne := Or.inl (tw_in 1222 (by decide +kernel) (by decide +kernel))
theorem lk_RX11_163 : LK RX11 163 yX11_isLoop := Or.inl (tw_in 1226 (by decide +kernel) (by decide +kernel))
theorem lk_RX11_168 : LK RX11 168 yX11_laysLoops := Or.inl (tw_in 1247 (by decide +kernel) (by decide +kernel))
theorem lk_RX11_171 : LK RX11 171 yX11_told := Or.inl (tw_in 1251 (by decide +kernel) (by decide +kernel))
theorem lk_RX11_180 : LK RX11 180 yX11_lowOf := Or.inl (tw_in 1279 (by decide +kernel) (by decide +kernel))
theorem lk_RX11_184 : LK RX11 184 yX11_highOf := Or.inl (tw_in 1283 (by decide +kernel) (by decide +kernel))
theorem lk_RX11_187 : LK RX11 187 yX11_lesser := Or.inl (tw_in 1287 (by decide +kernel) (by decide +kernel))
theorem lk_RX11_191 : LK RX11 191 yX11_greater := Or.inl (tw_in 1290 (by decide +kernel) (by decide +kernel))
theorem lk_RX11_198 : LK RX11 198 yX11_startsWalk := Or.inl (tw_in 1267 (by decide +kernel) (by decide +kernel))
theorem lk_RX11_205 : LK RX11 205 yX11_walks := Or.inl (tw_in 1271 (by decide +kernel) (by decide +kernel))
theorem lk_RX11_208 : LK RX11 208 yX11_ranges := Or.inl (tw_in 1275 (by decide +kernel) (by decide +kernel))
theorem lk_RX11_211 : LK RX11 211 yX11_goesOn := Or.inl (tw_in 1295 (by decide +kernel) (by decide +kernel))
theorem lk_RX11_214 : LK RX11 214 yX11_coverOf := Or.inl (tw_in 1299 (by decide +kernel) (by decide +kernel))
theorem lk_RX11_217 : LK RX11 217 yX11_isHoisted := Or.inl (tw_in 1306 (by decide +kernel) (by decide +kernel))
theorem lk_RX11_220 : LK RX11 220 yX11_has := Or.inl (tw_in 1303 (by decide +kernel) (by decide +kernel))
theorem lk_RX11_224 : LK RX11 224 yX11_stepOf := Or.inl (tw_in 1310 (by decide +kernel) (by decide +kernel))
theorem lk_RX11_227 : LK RX11 227 yX11_analyses := Or.inl (tw_in 1263 (by decide +kernel) (by decide +kernel))
theorem lk_RX11_232 : LK RX11 232 yX11_statesFrom := Or.inl (tw_in 1319 (by decide +kernel) (by decide +kernel))
theorem lk_RX11_235 : LK RX11 235 yX11_finalOf := Or.inl (tw_in 1335 (by decide +kernel) (by decide +kernel))
theorem lk_RX11_239 : LK RX11 239 yX11_valueOf := Or.inl (tw_in 1359 (by decide +kernel) (by decide +kernel))
theorem lk_RX11_245 : LK RX11 245 yX11_isInt := Or.inl (tw_in 1363 (by decide +kernel) (by decide +kernel))
theorem lk_RX11_255 : LK RX11 255 yX11_checksLoop := Or.inl (tw_in 1355 (by decide +kernel) (by decide +kernel))
theorem lk_RX11_259 : LK RX11 259 yX11_exact := Or.inl (tw_in 1366 (by decide +kernel) (by decide +kernel))
theorem lk_RX11_262 : LK RX11 262 yX11_isChecked := Or.inl (tw_in 1370 (by decide +kernel) (by decide +kernel))
theorem lk_RX11_266 : LK RX11 266 yX11_runs := Or.inl (tw_in 1351 (by decide +kernel) (by decide +kernel))
theorem lk_RX11_270 : LK RX11 270 yX11_outcome := Or.inl (tw_in 1347 (by decide +kernel) (by decide +kernel))
theorem lk_RX11_274 : LK RX11 274 yX11_openOnes := Or.inl (tw_in 1394 (by decide +kernel) (by decide +kernel))
theorem lk_RX11_285 : LK RX11 285 yX11_sumsRun := Or.inl (tw_in 1418 (by decide +kernel) (by decide +kernel))
theorem kc_RX0_64 : Cond.constant RX0 64 (1000000) ∈ TW := tw_in 566 (by decide +kernel) (by decide +kernel)
theorem kc_RX10_325 : Cond.constantLong RX10 325 (-2147483648) ∈ TW := tw_in 607 (by decide +kernel) (by decide +kernel)
theorem kc_RX10_327 : Cond.constantLong RX10 327 (2147483647) ∈ TW := tw_in 608 (by decide +kernel) (by decide +kernel)
theorem kc_RX0_118 : Cond.constantLong RX0 118 (-2147483648) ∈ TW := tw_in 609 (by decide +kernel) (by decide +kernel)
theorem kc_RX0_126 : Cond.constantLong RX0 126 (2147483647) ∈ TW := tw_in 610 (by decide +kernel) (by decide +kernel)
theorem kc_RX7_49 : Cond.constant RX7 49 (1000000) ∈ TW := tw_in 679 (by decide +kernel) (by decide +kernel)
theorem kc_RX10_269 : Cond.constantLong RX10 269 (2953) ∈ TW := tw_in 729 (by decide +kernel) (by decide +kernel)
theorem kc_RX10_285 : Cond.constantLong RX10 285 (31) ∈ TW := tw_in 733 (by decide +kernel) (by decide +kernel)
theorem kc_RX10_238 : Cond.constantLong RX10 238 (200) ∈ TW := tw_in 1011 (by decide +kernel) (by decide +kernel)
theorem kc_RX10_256 : Cond.constant RX10 256 (-2147483648) ∈ TW := tw_in 1021 (by decide +kernel) (by decide +kernel)
theorem kc_RX11_96 : Cond.constantLong RX11 96 (127) ∈ TW := tw_in 1144 (by decide +kernel) (by decide +kernel)
theorem kc_RX11_116 : Cond.constantLong RX11 116 (97) ∈ TW := tw_in 1172 (by decide +kernel) (by decide +kernel)
theorem kc_RX11_118 : Cond.constantLong RX11 118 (104) ∈ TW := tw_in 1173 (by decide +kernel) (by decide +kernel)
theorem kc_RX11_112 : Cond.constantLong RX11 112 (48) ∈ TW := tw_in 1186 (by decide +kernel) (by decide +kernel)
theorem kc_RX11_114 : Cond.constantLong RX11 114 (57) ∈ TW := tw_in 1187 (by decide +kernel) (by decide +kernel)
theorem kc_RX11_137 : Cond.constantLong RX11 137 (40) ∈ TW := tw_in 1196 (by decide +kernel) (by decide +kernel)
theorem kc_RX11_94 : Cond.constantLong RX11 94 (7) ∈ TW := tw_in 1208 (by decide +kernel) (by decide +kernel)
theorem kc_RX11_158 : Cond.constantLong RX11 158 (2) ∈ TW := tw_in 1217 (by decide +kernel) (by decide +kernel)
theorem kc_RX11_166 : Cond.constantLong RX11 166 (3) ∈ TW := tw_in 1246 (by decide +kernel) (by decide +kernel)
theorem kc_RX11_194 : Cond.constantLong RX11 194 (-2147483648) ∈ TW := tw_in 1293 (by decide +kernel) (by decide +kernel)
theorem kc_RX11_196 : Cond.constantLong RX11 196 (2147483647) ∈ TW := tw_in 1294 (by decide +kernel) (by decide +kernel)
theorem kc_RX11_230 : Cond.constantLong RX11 230 (4) ∈ TW := tw_in 1318 (by decide +kernel) (by decide +kernel)
theorem kc_RX11_278 : Cond.constantLong RX11 278 (200) ∈ TW := tw_in 1406 (by decide +kernel) (by decide +kernel)
theorem kc_RX11_280 : Cond.constant RX11 280 (-2147483648) ∈ TW := tw_in 1407 (by decide +kernel) (by decide +kernel)
theorem kc_RX11_281 : Cond.constantLong RX11 281 (31) ∈ TW := tw_in 1416 (by decide +kernel) (by decide +kernel)
theorem kc_RX11_283 : Cond.constantLong RX11 283 (91543) ∈ TW := tw_in 1417 (by decide +kernel) (by decide +kernel)
theorem ini_RL : Cond.initialized RL ∈ TW := tw_in 100 (by decide +kernel) (by decide +kernel)
theorem ini_RX10 : Cond.initialized RX10 ∈ TW := tw_in 101 (by decide +kernel) (by decide +kernel)
theorem ini_RX9 : Cond.initialized RX9 ∈ TW := tw_in 102 (by decide +kernel) (by decide +kernel)
theorem ini_RX6 : Cond.initialized RX6 ∈ TW := tw_in 103 (by decide +kernel) (by decide +kernel)
theorem ini_RX4 : Cond.initialized RX4 ∈ TW := tw_in 104 (by decide +kernel) (by decide +kernel)
theorem ini_RX8 : Cond.initialized RX8 ∈ TW := tw_in 105 (by decide +kernel) (by decide +kernel)
theorem ini_RX3 : Cond.initialized RX3 ∈ TW := tw_in 106 (by decide +kernel) (by decide +kernel)
theorem ini_RX2 : Cond.initialized RX2 ∈ TW := tw_in 107 (by decide +kernel) (by decide +kernel)
theorem ini_RX0 : Cond.initialized RX0 ∈ TW := tw_in 108 (by decide +kernel) (by decide +kernel)
theorem ini_RX1 : Cond.initialized RX1 ∈ TW := tw_in 109 (by decide +kernel) (by decide +kernel)
theorem ini_RX5 : Cond.initialized RX5 ∈ TW := tw_in 110 (by decide +kernel) (by decide +kernel)
theorem ini_RX7 : Cond.initialized RX7 ∈ TW := tw_in 111 (by decide +kernel) (by decide +kernel)
theorem ini_RX11 : Cond.initialized RX11 ∈ TW := tw_in 112 (by decide +kernel) (by decide +kernel)
theorem ac_i : Cond.initialized "java/lang/System" ∈ TW := tw_in 118 (by decide +kernel) (by decide +kernel)
theorem ini_RJ10 : Cond.initialized RJ10 ∈ TW := tw_in 118 (by decide +kernel) (by decide +kernel)
theorem ma_i : Cond.initialized "java/lang/Math" ∈ TW := tw_in 120 (by decide +kernel) (by decide +kernel)
theorem ini_RJ9 : Cond.initialized RJ9 ∈ TW := tw_in 120 (by decide +kernel) (by decide +kernel)
theorem cl_RL_8 : Cond.classLink RL 8 RX10 ∈ TW := tw_in 121 (by decide +kernel) (by decide +kernel)
theorem is_RX10 : Cond.instantiable RX10 14 ∈ TW := tw_in 122 (by decide +kernel) (by decide +kernel)
theorem oi_RX10 : Cond.methodLink RX10 1 Lib.objectInit ∈ TW := tw_in 126 (by decide +kernel) (by decide +kernel)
theorem oi_i : Cond.instanceMethod Lib.objectInit ∈ TW := tw_in 127 (by decide +kernel) (by decide +kernel)
theorem oi_c : Cond.code Lib.objectInit ⟨#[0xb1]⟩ 1 none ∈ TW := tw_in 128 (by decide +kernel) (by decide +kernel)
theorem cl_RX10_7 : Cond.classLink RX10 7 RX9 ∈ TW := tw_in 129 (by decide +kernel) (by decide +kernel)
theorem is_RX9 : Cond.instantiable RX9 2 ∈ TW := tw_in 130 (by decide +kernel) (by decide +kernel)
theorem oi_RX9 : Cond.methodLink RX9 3 Lib.objectInit ∈ TW := tw_in 134 (by decide +kernel) (by decide +kernel)
theorem ak_int : Cond.arrayClass (.int) ∈ TW := tw_in 144 (by decide +kernel) (by decide +kernel)
theorem cl_RX10_16 : Cond.classLink RX10 16 RX6 ∈ TW := tw_in 145 (by decide +kernel) (by decide +kernel)
theorem is_RX6 : Cond.instantiable RX6 7 ∈ TW := tw_in 146 (by decide +kernel) (by decide +kernel)
theorem oi_RX6 : Cond.methodLink RX6 3 Lib.objectInit ∈ TW := tw_in 150 (by decide +kernel) (by decide +kernel)
theorem cl_RX10_23 : Cond.classLink RX10 23 RX4 ∈ TW := tw_in 203 (by decide +kernel) (by decide +kernel)
theorem is_RX4 : Cond.instantiable RX4 6 ∈ TW := tw_in 204 (by decide +kernel) (by decide +kernel)
theorem oi_RX4 : Cond.methodLink RX4 3 Lib.objectInit ∈ TW := tw_in 208 (by decide +kernel) (by decide +kernel)
theorem cl_RX10_32 : Cond.classLink RX10 32 RX8 ∈ TW := tw_in 228 (by decide +kernel) (by decide +kernel)
theorem is_RX8 : Cond.instantiable RX8 2 ∈ TW := tw_in 229 (by decide +kernel) (by decide +kernel)
theorem oi_RX8 : Cond.methodLink RX8 1 Lib.objectInit ∈ TW := tw_in 233 (by decide +kernel) (by decide +kernel)
theorem cl_RX8_7 : Cond.classLink RX8 7 RX6 ∈ TW := tw_in 234 (by decide +kernel) (by decide +kernel)
theorem cl_RX8_16 : Cond.classLink RX8 16 RX3 ∈ TW := tw_in 236 (by decide +kernel) (by decide +kernel)
theorem is_RX3 : Cond.instantiable RX3 3 ∈ TW := tw_in 237 (by decide +kernel) (by decide +kernel)
theorem oi_RX3 : Cond.methodLink RX3 3 Lib.objectInit ∈ TW := tw_in 241 (by decide +kernel) (by decide +kernel)
theorem cl_RX10_39 : Cond.classLink RX10 39 RX2 ∈ TW := tw_in 267 (by decide +kernel) (by decide +kernel)
theorem is_RX2 : Cond.instantiable RX2 2 ∈ TW := tw_in 268 (by decide +kernel) (by decide +kernel)
theorem oi_RX2 : Cond.methodLink RX2 3 Lib.objectInit ∈ TW := tw_in 272 (by decide +kernel) (by decide +kernel)
theorem cl_RX2_15 : Cond.classLink RX2 15 RX8 ∈ TW := tw_in 273 (by decide +kernel) (by decide +kernel)
theorem cl_RX10_46 : Cond.classLink RX10 46 RX0 ∈ TW := tw_in 284 (by decide +kernel) (by decide +kernel)
theorem is_RX0 : Cond.instantiable RX0 13 ∈ TW := tw_in 285 (by decide +kernel) (by decide +kernel)
theorem oi_RX0 : Cond.methodLink RX0 3 Lib.objectInit ∈ TW := tw_in 289 (by decide +kernel) (by decide +kernel)
theorem cl_RX0_9 : Cond.classLink RX0 9 RX1 ∈ TW := tw_in 290 (by decide +kernel) (by decide +kernel)
theorem is_RX1 : Cond.instantiable RX1 2 ∈ TW := tw_in 291 (by decide +kernel) (by decide +kernel)
theorem oi_RX1 : Cond.methodLink RX1 3 Lib.objectInit ∈ TW := tw_in 295 (by decide +kernel) (by decide +kernel)
theorem ak_long : Cond.arrayClass (.long) ∈ TW := tw_in 351 (by decide +kernel) (by decide +kernel)
theorem ak_boolean : Cond.arrayClass (.boolean) ∈ TW := tw_in 352 (by decide +kernel) (by decide +kernel)
theorem cl_RX10_53 : Cond.classLink RX10 53 RX5 ∈ TW := tw_in 353 (by decide +kernel) (by decide +kernel)
theorem is_RX5 : Cond.instantiable RX5 3 ∈ TW := tw_in 354 (by decide +kernel) (by decide +kernel)
theorem oi_RX5 : Cond.methodLink RX5 3 Lib.objectInit ∈ TW := tw_in 358 (by decide +kernel) (by decide +kernel)
theorem cl_RX10_60 : Cond.classLink RX10 60 RX7 ∈ TW := tw_in 372 (by decide +kernel) (by decide +kernel)
theorem is_RX7 : Cond.instantiable RX7 6 ∈ TW := tw_in 373 (by decide +kernel) (by decide +kernel)
theorem oi_RX7 : Cond.methodLink RX7 3 Lib.objectInit ∈ TW := tw_in 377 (by decide +kernel) (by decide +kernel)
theorem cl_RX7_9 : Cond.classLink RX7 9 RX1 ∈ TW := tw_in 378 (by decide +kernel) (by decide +kernel)
theorem cl_RX10_77 : Cond.classLink RX10 77 RX3 ∈ TW := tw_in 403 (by decide +kernel) (by decide +kernel)
theorem ac_RX6 : Cond.methodLink RX6 34 arraycopyName ∈ TW := tw_in 529 (by decide +kernel) (by decide +kernel)
theorem ac_s : Cond.static arraycopyName ∈ TW := tw_in 530 (by decide +kernel) (by decide +kernel)
theorem ac_n : Cond.native arraycopyName ∈ TW := tw_in 531 (by decide +kernel) (by decide +kernel)
theorem ac_RX3 : Cond.methodLink RX3 21 arraycopyName ∈ TW := tw_in 536 (by decide +kernel) (by decide +kernel)
theorem ma_RX0_128 : Cond.methodLink RX0 128 Lib.MathLoose.min_long.x ∈ TW := tw_in 594 (by decide +kernel) (by decide +kernel)
theorem ma_s_min : Cond.static Lib.MathLoose.min_long.x ∈ TW := tw_in 595 (by decide +kernel) (by decide +kernel)
theorem ma_c_min : Cond.code Lib.MathLoose.min_long.x Lib.MathLoose.min_long.code 4 (some .long) ∈ TW := tw_in 596 (by decide +kernel) (by decide +kernel)
theorem ma_RX0_120 : Cond.methodLink RX0 120 Lib.MathLoose.max_long.x ∈ TW := tw_in 597 (by decide +kernel) (by decide +kernel)
theorem ma_s_max : Cond.static Lib.MathLoose.max_long.x ∈ TW := tw_in 598 (by decide +kernel) (by decide +kernel)
theorem ma_c_max : Cond.code Lib.MathLoose.max_long.x Lib.MathLoose.max_long.code 4 (some .long) ∈ TW := tw_in 599 (by decide +kernel) (by decide +kernel)
theorem ak_byte : Cond.arrayClass (.byte) ∈ TW := tw_in 829 (by decide +kernel) (by decide +kernel)
theorem ma_RX10_240 : Cond.methodLink RX10 240 Lib.MathLoose.min_long.x ∈ TW := tw_in 1012 (by decide +kernel) (by decide +kernel)
theorem cl_RL_73 : Cond.classLink RL 73 RX11 ∈ TW := tw_in 1034 (by decide +kernel) (by decide +kernel)
theorem is_RX11 : Cond.instantiable RX11 33 ∈ TW := tw_in 1035 (by decide +kernel) (by decide +kernel)
theorem oi_RX11 : Cond.methodLink RX11 1 Lib.objectInit ∈ TW := tw_in 1039 (by decide +kernel) (by decide +kernel)
