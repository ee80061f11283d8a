set_option maxRecDepth 100000 in
theorem kw_X0 : ∀ w ∈ u_ws RX0 TX0 3, w ∈ rd_gt := by decide +kernel
set_option maxRecDepth 100000 in
theorem kw_X1 : ∀ w ∈ u_ws RX1 TX1 6, w ∈ rd_gt := by decide +kernel
set_option maxRecDepth 100000 in
theorem kw_X2 : ∀ w ∈ u_ws RX2 TX2 9, w ∈ rd_gt := by decide +kernel
set_option maxRecDepth 100000 in
theorem kw_X3 : ∀ w ∈ u_ws RX3 TX3 6, w ∈ rd_gt := by decide +kernel
set_option maxRecDepth 100000 in
theorem kw_X4 : ∀ w ∈ u_ws RX4 TX4 14, w ∈ rd_gt := by decide +kernel
set_option maxRecDepth 100000 in
theorem kw_X5 : ∀ w ∈ u_ws RX5 TX5 25, w ∈ rd_gt := by decide +kernel
set_option maxRecDepth 100000 in
theorem if_0_1 : rd_IF 0 1 := fun C T Nf h => by cases h; exact ⟨rfl, rfl⟩
set_option maxRecDepth 100000 in
theorem if_0_2 : rd_IF 0 2 := fun C T Nf h => by cases h; exact ⟨rfl, rfl⟩
set_option maxRecDepth 100000 in
theorem if_1_1 : rd_IF 1 1 := fun C T Nf h => by cases h; exact ⟨rfl, rfl⟩
set_option maxRecDepth 100000 in
theorem if_1_2 : rd_IF 1 2 := fun C T Nf h => by cases h; exact ⟨rfl, rfl⟩
set_option maxRecDepth 100000 in
theorem if_1_3 : rd_IF 1 3 := fun C T Nf h => by cases h; exact ⟨rfl, rfl⟩
set_option maxRecDepth 100000 in
theorem if_1_4 : rd_IF 1 4 := fun C T Nf h => by cases h; exact ⟨rfl, rfl⟩
set_option maxRecDepth 100000 in
theorem if_1_5 : rd_IF 1 5 := fun C T Nf h => by cases h; exact ⟨rfl, rfl⟩
set_option maxRecDepth 100000 in
theorem if_2_1 : rd_IF 2 1 := fun C T Nf h => by cases h; exact ⟨rfl, rfl⟩
set_option maxRecDepth 100000 in
theorem if_2_3 : rd_IF 2 3 := fun C T Nf h => by cases h; exact ⟨rfl, rfl⟩
set_option maxRecDepth 100000 in
theorem if_2_4 : rd_IF 2 4 := fun C T Nf h => by cases h; exact ⟨rfl, rfl⟩
set_option maxRecDepth 100000 in
theorem if_2_5 : rd_IF 2 5 := fun C T Nf h => by cases h; exact ⟨rfl, rfl⟩
set_option maxRecDepth 100000 in
theorem if_2_6 : rd_IF 2 6 := fun C T Nf h => by cases h; exact ⟨rfl, rfl⟩
set_option maxRecDepth 100000 in
theorem if_2_7 : rd_IF 2 7 := fun C T Nf h => by cases h; exact ⟨rfl, rfl⟩
set_option maxRecDepth 100000 in
theorem if_2_8 : rd_IF 2 8 := fun C T Nf h => by cases h; exact ⟨rfl, rfl⟩
set_option maxRecDepth 100000 in
theorem if_3_0 : rd_IF 3 0 := fun C T Nf h => by cases h; exact ⟨rfl, rfl⟩
set_option maxRecDepth 100000 in
theorem if_3_1 : rd_IF 3 1 := fun C T Nf h => by cases h; exact ⟨rfl, rfl⟩
set_option maxRecDepth 100000 in
theorem if_3_2 : rd_IF 3 2 := fun C T Nf h => by cases h; exact ⟨rfl, rfl⟩
set_option maxRecDepth 100000 in
theorem if_3_3 : rd_IF 3 3 := fun C T Nf h => by cases h; exact ⟨rfl, rfl⟩
set_option maxRecDepth 100000 in
theorem if_3_4 : rd_IF 3 4 := fun C T Nf h => by cases h; exact ⟨rfl, rfl⟩
set_option maxRecDepth 100000 in
theorem if_3_5 : rd_IF 3 5 := fun C T Nf h => by cases h; exact ⟨rfl, rfl⟩
set_option maxRecDepth 100000 in
theorem if_4_10 : rd_IF 4 10 := fun C T Nf h => by cases h; exact ⟨rfl, rfl⟩
set_option maxRecDepth 100000 in
theorem if_4_11 : rd_IF 4 11 := fun C T Nf h => by cases h; exact ⟨rfl, rfl⟩
set_option maxRecDepth 100000 in
theorem if_4_12 : rd_IF 4 12 := fun C T Nf h => by cases h; exact ⟨rfl, rfl⟩
set_option maxRecDepth 100000 in
theorem if_4_13 : rd_IF 4 13 := fun C T Nf h => by cases h; exact ⟨rfl, rfl⟩
set_option maxRecDepth 100000 in
theorem if_5_3 : rd_IF 5 3 := fun C T Nf h => by cases h; exact ⟨rfl, rfl⟩
set_option maxRecDepth 100000 in
theorem if_5_6 : rd_IF 5 6 := fun C T Nf h => by cases h; exact ⟨rfl, rfl⟩
set_option maxRecDepth 100000 in
theorem if_5_8 : rd_IF 5 8 := fun C T Nf h => by cases h; exact ⟨rfl, rfl⟩
set_option maxRecDepth 100000 in
theorem if_5_10 : rd_IF 5 10 := fun C T Nf h => by cases h; exact ⟨rfl, rfl⟩
set_option maxRecDepth 100000 in
theorem if_5_12 : rd_IF 5 12 := fun C T Nf h => by cases h; exact ⟨rfl, rfl⟩
set_option maxRecDepth 100000 in
theorem if_5_16 : rd_IF 5 16 := fun C T Nf h => by cases h; exact ⟨rfl, rfl⟩
set_option maxRecDepth 100000 in
theorem if_5_17 : rd_IF 5 17 := fun C T Nf h => by cases h; exact ⟨rfl, rfl⟩
set_option maxRecDepth 100000 in
theorem if_5_18 : rd_IF 5 18 := fun C T Nf h => by cases h; exact ⟨rfl, rfl⟩
set_option maxRecDepth 100000 in
theorem if_5_20 : rd_IF 5 20 := fun C T Nf h => by cases h; exact ⟨rfl, rfl⟩
set_option maxRecDepth 100000 in
theorem if_5_21 : rd_IF 5 21 := fun C T Nf h => by cases h; exact ⟨rfl, rfl⟩
set_option maxRecDepth 100000 in
theorem kf_X1_9 : rd_FL RX1 9 1 0 := ⟨RX1, TX1, 6, tyX1, rfl, kw_X1, tyX1_ok, nmX1, rfl, by decide, by decide, (rd_gt_of 72 rfl rfl)⟩
set_option maxRecDepth 100000 in
theorem kf_X1_15 : rd_FL RX1 15 1 1 := ⟨RX1, TX1, 6, tyX1, rfl, kw_X1, tyX1_ok, nmX1, rfl, by decide, by decide, (rd_gt_of 73 rfl rfl)⟩
set_option maxRecDepth 100000 in
theorem kf_X4_84 : rd_FL RX4 84 1 1 := ⟨RX1, TX1, 6, tyX1, rfl, kw_X1, tyX1_ok, nmX1, rfl, by decide, by decide, (rd_gt_of 74 rfl rfl)⟩
set_option maxRecDepth 100000 in
theorem kf_X1_49 : rd_FL RX1 49 1 2 := ⟨RX1, TX1, 6, tyX1, rfl, kw_X1, tyX1_ok, nmX1, rfl, by decide, by decide, (rd_gt_of 75 rfl rfl)⟩
set_option maxRecDepth 100000 in
theorem kf_X4_236 : rd_FL RX4 236 1 2 := ⟨RX1, TX1, 6, tyX1, rfl, kw_X1, tyX1_ok, nmX1, rfl, by decide, by decide, (rd_gt_of 76 rfl rfl)⟩
set_option maxRecDepth 100000 in
theorem kf_X1_52 : rd_FL RX1 52 1 3 := ⟨RX1, TX1, 6, tyX1, rfl, kw_X1, tyX1_ok, nmX1, rfl, by decide, by decide, (rd_gt_of 77 rfl rfl)⟩
set_option maxRecDepth 100000 in
theorem kf_X4_239 : rd_FL RX4 239 1 3 := ⟨RX1, TX1, 6, tyX1, rfl, kw_X1, tyX1_ok, nmX1, rfl, by decide, by decide, (rd_gt_of 78 rfl rfl)⟩
set_option maxRecDepth 100000 in
theorem kf_X1_55 : rd_FL RX1 55 1 4 := ⟨RX1, TX1, 6, tyX1, rfl, kw_X1, tyX1_ok, nmX1, rfl, by decide, by decide, (rd_gt_of 79 rfl rfl)⟩
set_option maxRecDepth 100000 in
theorem kf_X4_242 : rd_FL RX4 242 1 4 := ⟨RX1, TX1, 6, tyX1, rfl, kw_X1, tyX1_ok, nmX1, rfl, by decide, by decide, (rd_gt_of 80 rfl rfl)⟩
set_option maxRecDepth 100000 in
theorem kf_X1_37 : rd_FL RX1 37 1 5 := ⟨RX1, TX1, 6, tyX1, rfl, kw_X1, tyX1_ok, nmX1, rfl, by decide, by decide, (rd_gt_of 81 rfl rfl)⟩
set_option maxRecDepth 100000 in
theorem kf_X3_11 : rd_FL RX3 11 3 0 := ⟨RX3, TX3, 6, tyX3, rfl, kw_X3, tyX3_ok, nmX3, rfl, by decide, by decide, (rd_gt_of 102 rfl rfl)⟩
set_option maxRecDepth 100000 in
theorem kf_X4_205 : rd_FL RX4 205 3 0 := ⟨RX3, TX3, 6, tyX3, rfl, kw_X3, tyX3_ok, nmX3, rfl, by decide, by decide, (rd_gt_of 103 rfl rfl)⟩
set_option maxRecDepth 100000 in
theorem kf_X3_22 : rd_FL RX3 22 3 1 := ⟨RX3, TX3, 6, tyX3, rfl, kw_X3, tyX3_ok, nmX3, rfl, by decide, by decide, (rd_gt_of 104 rfl rfl)⟩
set_option maxRecDepth 100000 in
theorem kf_X3_25 : rd_FL RX3 25 3 2 := ⟨RX3, TX3, 6, tyX3, rfl, kw_X3, tyX3_ok, nmX3, rfl, by decide, by decide, (rd_gt_of 105 rfl rfl)⟩
set_option maxRecDepth 100000 in
theorem kf_X4_114 : rd_FL RX4 114 3 2 := ⟨RX3, TX3, 6, tyX3, rfl, kw_X3, tyX3_ok, nmX3, rfl, by decide, by decide, (rd_gt_of 106 rfl rfl)⟩
set_option maxRecDepth 100000 in
theorem kf_X2_59 : rd_FL RX2 59 3 2 := ⟨RX3, TX3, 6, tyX3, rfl, kw_X3, tyX3_ok, nmX3, rfl, by decide, by decide, (rd_gt_of 107 rfl rfl)⟩
set_option maxRecDepth 100000 in
theorem kf_X3_15 : rd_FL RX3 15 3 3 := ⟨RX3, TX3, 6, tyX3, rfl, kw_X3, tyX3_ok, nmX3, rfl, by decide, by decide, (rd_gt_of 108 rfl rfl)⟩
set_option maxRecDepth 100000 in
theorem kf_X4_117 : rd_FL RX4 117 3 3 := ⟨RX3, TX3, 6, tyX3, rfl, kw_X3, tyX3_ok, nmX3, rfl, by decide, by decide, (rd_gt_of 109 rfl rfl)⟩
set_option maxRecDepth 100000 in
theorem kf_X2_67 : rd_FL RX2 67 3 3 := ⟨RX3, TX3, 6, tyX3, rfl, kw_X3, tyX3_ok, nmX3, rfl, by decide, by decide, (rd_gt_of 110 rfl rfl)⟩
set_option maxRecDepth 100000 in
theorem kf_X3_28 : rd_FL RX3 28 3 4 := ⟨RX3, TX3, 6, tyX3, rfl, kw_X3, tyX3_ok, nmX3, rfl, by decide, by decide, (rd_gt_of 111 rfl rfl)⟩
set_option maxRecDepth 100000 in
theorem kf_X4_233 : rd_FL RX4 233 3 4 := ⟨RX3, TX3, 6, tyX3, rfl, kw_X3, tyX3_ok, nmX3, rfl, by decide, by decide, (rd_gt_of 112 rfl rfl)⟩
set_option maxRecDepth 100000 in
theorem kf_X3_31 : rd_FL RX3 31 3 5 := ⟨RX3, TX3, 6, tyX3, rfl, kw_X3, tyX3_ok, nmX3, rfl, by decide, by decide, (rd_gt_of 113 rfl rfl)⟩
set_option maxRecDepth 100000 in
theorem kf_X4_183 : rd_FL RX4 183 3 5 := ⟨RX3, TX3, 6, tyX3, rfl, kw_X3, tyX3_ok, nmX3, rfl, by decide, by decide, (rd_gt_of 114 rfl rfl)⟩
set_option maxRecDepth 100000 in
theorem kl_X0_7 : Cond.methodLink RX0 7 Lib.Math.max.name ∈ rd_gt := (rd_gt_of 134 rfl rfl)
set_option maxRecDepth 100000 in
theorem kf_X0_15 : rd_FL RX0 15 0 0 := ⟨RX0, TX0, 3, tyX0, rfl, kw_X0, tyX0_ok, nmX0, rfl, by decide, by decide, (rd_gt_of 140 rfl rfl)⟩
set_option maxRecDepth 100000 in
theorem kf_X0_26 : rd_FL RX0 26 0 1 := ⟨RX0, TX0, 3, tyX0, rfl, kw_X0, tyX0_ok, nmX0, rfl, by decide, by decide, (rd_gt_of 141 rfl rfl)⟩
set_option maxRecDepth 100000 in
theorem kf_X0_22 : rd_FL RX0 22 0 2 := ⟨RX0, TX0, 3, tyX0, rfl, kw_X0, tyX0_ok, nmX0, rfl, by decide, by decide, (rd_gt_of 142 rfl rfl)⟩
set_option maxRecDepth 100000 in
theorem kf_X4_151 : rd_FL RX4 151 0 2 := ⟨RX0, TX0, 3, tyX0, rfl, kw_X0, tyX0_ok, nmX0, rfl, by decide, by decide, (rd_gt_of 143 rfl rfl)⟩
set_option maxRecDepth 100000 in
theorem kf_X2_11 : rd_FL RX2 11 2 0 := ⟨RX2, TX2, 9, tyX2, rfl, kw_X2, tyX2_ok, nmX2, rfl, by decide, by decide, (rd_gt_of 159 rfl rfl)⟩
set_option maxRecDepth 100000 in
theorem kf_X2_39 : rd_FL RX2 39 2 1 := ⟨RX2, TX2, 9, tyX2, rfl, kw_X2, tyX2_ok, nmX2, rfl, by decide, by decide, (rd_gt_of 160 rfl rfl)⟩
set_option maxRecDepth 100000 in
theorem kf_X2_18 : rd_FL RX2 18 2 2 := ⟨RX2, TX2, 9, tyX2, rfl, kw_X2, tyX2_ok, nmX2, rfl, by decide, by decide, (rd_gt_of 161 rfl rfl)⟩
set_option maxRecDepth 100000 in
theorem kf_X2_22 : rd_FL RX2 22 2 3 := ⟨RX2, TX2, 9, tyX2, rfl, kw_X2, tyX2_ok, nmX2, rfl, by decide, by decide, (rd_gt_of 162 rfl rfl)⟩
set_option maxRecDepth 100000 in
theorem kf_X2_26 : rd_FL RX2 26 2 4 := ⟨RX2, TX2, 9, tyX2, rfl, kw_X2, tyX2_ok, nmX2, rfl, by decide, by decide, (rd_gt_of 163 rfl rfl)⟩
set_option maxRecDepth 100000 in
theorem kf_X2_29 : rd_FL RX2 29 2 5 := ⟨RX2, TX2, 9, tyX2, rfl, kw_X2, tyX2_ok, nmX2, rfl, by decide, by decide, (rd_gt_of 164 rfl rfl)⟩
set_option maxRecDepth 100000 in
theorem kf_X2_32 : rd_FL RX2 32 2 6 := ⟨RX2, TX2, 9, tyX2, rfl, kw_X2, tyX2_ok, nmX2, rfl, by decide, by decide, (rd_gt_of 165 rfl rfl)⟩
set_option maxRecDepth 100000 in
theorem kf_X2_42 : rd_FL RX2 42 2 7 := ⟨RX2, TX2, 9, tyX2, rfl, kw_X2, tyX2_ok, nmX2, rfl, by decide, by decide, (rd_gt_of 166 rfl rfl)⟩
set_option maxRecDepth 100000 in
theorem kf_X4_253 : rd_FL RX4 253 2 7 := ⟨RX2, TX2, 9, tyX2, rfl, kw_X2, tyX2_ok, nmX2, rfl, by decide, by decide, (rd_gt_of 167 rfl rfl)⟩
set_option maxRecDepth 100000 in
theorem kf_X2_45 : rd_FL RX2 45 2 8 := ⟨RX2, TX2, 9, tyX2, rfl, kw_X2, tyX2_ok, nmX2, rfl, by decide, by decide, (rd_gt_of 168 rfl rfl)⟩
set_option maxRecDepth 100000 in
theorem kf_X4_256 : rd_FL RX4 256 2 8 := ⟨RX2, TX2, 9, tyX2, rfl, kw_X2, tyX2_ok, nmX2, rfl, by decide, by decide, (rd_gt_of 169 rfl rfl)⟩
set_option maxRecDepth 100000 in
theorem km_X4_70 : rd_CV RX4 70 1 yX1_add cX1_add 2 (some .boolean) 1 := ⟨⟨(Or.inl (rd_gt_of 238 rfl rfl)), (rd_gt_of 47 rfl rfl), (rd_gt_of 241 rfl rfl), by decide +kernel, by decide +kernel, by decide⟩, (rd_gt_of 239 rfl rfl), (rd_gt_of 240 rfl rfl), TX1, 6, rfl, by decide⟩
set_option maxRecDepth 100000 in
theorem km_X4_74 : rd_CV RX4 74 1 yX1_tellsDance cX1_tellsDance 1 (some .boolean) 0 := ⟨⟨(Or.inl (rd_gt_of 242 rfl rfl)), (rd_gt_of 47 rfl rfl), (rd_gt_of 245 rfl rfl), by decide +kernel, by decide +kernel, by decide⟩, (rd_gt_of 243 rfl rfl), (rd_gt_of 244 rfl rfl), TX1, 6, rfl, by decide⟩
set_option maxRecDepth 100000 in
theorem km_X1_26 : rd_CV RX1 26 1 yX1_firstFault cX1_firstFault 5 (some .int) 0 := ⟨⟨(Or.inl (rd_gt_of 246 rfl rfl)), (rd_gt_of 47 rfl rfl), (rd_gt_of 249 rfl rfl), by decide +kernel, by decide +kernel, by decide⟩, (rd_gt_of 247 rfl rfl), (rd_gt_of 248 rfl rfl), TX1, 6, rfl, by decide⟩
set_option maxRecDepth 100000 in
theorem km_X1_19 : rd_CV RX1 19 1 yX1_endOfItem cX1_endOfItem 2 (some .int) 1 := ⟨⟨(Or.inl (rd_gt_of 250 rfl rfl)), (rd_gt_of 47 rfl rfl), (rd_gt_of 253 rfl rfl), by decide +kernel, by decide +kernel, by decide⟩, (rd_gt_of 252 rfl rfl), (rd_gt_of 0 rfl rfl), TX1, 6, rfl, by decide⟩
set_option maxRecDepth 100000 in
theorem km_X1_23 : rd_CV RX1 23 1 yX1_letterAt cX1_letterAt 2 (some .int) 1 := ⟨⟨(Or.inl (rd_gt_of 254 rfl rfl)), (rd_gt_of 47 rfl rfl), (rd_gt_of 257 rfl rfl), by decide +kernel, by decide +kernel, by decide⟩, (rd_gt_of 256 rfl rfl), (rd_gt_of 1 rfl rfl), TX1, 6, rfl, by decide⟩
set_option maxRecDepth 100000 in
theorem km_X1_68 : rd_CV RX1 68 1 yX1_endOfPair cX1_endOfPair 4 (some .int) 2 := ⟨⟨(Or.inl (rd_gt_of 258 rfl rfl)), (rd_gt_of 47 rfl rfl), (rd_gt_of 261 rfl rfl), by decide +kernel, by decide +kernel, by decide⟩, (rd_gt_of 260 rfl rfl), (rd_gt_of 2 rfl rfl), TX1, 6, rfl, by decide⟩
set_option maxRecDepth 100000 in
theorem km_X1_71 : rd_CV RX1 71 1 yX1_isNumber cX1_isNumber 4 (some .boolean) 2 := ⟨⟨(Or.inl (rd_gt_of 262 rfl rfl)), (rd_gt_of 47 rfl rfl), (rd_gt_of 265 rfl rfl), by decide +kernel, by decide +kernel, by decide⟩, (rd_gt_of 264 rfl rfl), (rd_gt_of 3 rfl rfl), TX1, 6, rfl, by decide⟩
set_option maxRecDepth 100000 in
theorem km_X1_30 : rd_CV RX1 30 1 yX1_readItems cX1_readItems 3 none 0 := ⟨⟨(Or.inl (rd_gt_of 266 rfl rfl)), (rd_gt_of 47 rfl rfl), (rd_gt_of 269 rfl rfl), by decide +kernel, by decide +kernel, by decide⟩, (rd_gt_of 268 rfl rfl), (rd_gt_of 4 rfl rfl), TX1, 6, rfl, by decide⟩
set_option maxRecDepth 100000 in
theorem km_X1_60 : rd_CV RX1 60 1 yX1_readItem cX1_readItem 4 none 1 := ⟨⟨(Or.inl (rd_gt_of 270 rfl rfl)), (rd_gt_of 47 rfl rfl), (rd_gt_of 273 rfl rfl), by decide +kernel, by decide +kernel, by decide⟩, (rd_gt_of 272 rfl rfl), (rd_gt_of 5 rfl rfl), TX1, 6, rfl, by decide⟩
set_option maxRecDepth 100000 in
theorem km_X1_64 : rd_CS RX1 64 yX4_withKind cX4_withKind 3 (some .int) 3 := ⟨⟨(Or.inr ⟨"RopeDance", rd_nw_of 274 rfl⟩), (rd_gt_of 46 rfl rfl), (rd_gt_of 276 rfl rfl), by decide +kernel, by decide +kernel, by decide⟩, (rd_gt_of 275 rfl rfl)⟩
set_option maxRecDepth 100000 in
theorem km_X1_33 : rd_CV RX1 33 1 yX1_areApart cX1_areApart 3 (some .boolean) 0 := ⟨⟨(Or.inl (rd_gt_of 277 rfl rfl)), (rd_gt_of 47 rfl rfl), (rd_gt_of 280 rfl rfl), by decide +kernel, by decide +kernel, by decide⟩, (rd_gt_of 279 rfl rfl), (rd_gt_of 6 rfl rfl), TX1, 6, rfl, by decide⟩
set_option maxRecDepth 100000 in
theorem km_X1_40 : rd_CS RX1 40 yX4_pairAt cX4_pairAt 2 (some .int) 2 := ⟨⟨(Or.inr ⟨"RopeDance", rd_nw_of 281 rfl⟩), (rd_gt_of 46 rfl rfl), (rd_gt_of 283 rfl rfl), by decide +kernel, by decide +kernel, by decide⟩, (rd_gt_of 282 rfl rfl)⟩
set_option maxRecDepth 100000 in
theorem km_X1_44 : rd_CS RX1 44 yJ6_bitCount_0f7a4 cJ6_bitCount_0f7a4 1 (some .int) 1 := ⟨⟨(Or.inl (rd_gt_of 284 rfl rfl)), (rd_gt_of 56 rfl rfl), (rd_gt_of 286 rfl rfl), by decide +kernel, by decide +kernel, by decide⟩, (rd_gt_of 285 rfl rfl)⟩
set_option maxRecDepth 100000 in
theorem kc_J6_265 : Cond.constant RJ6 265 (1431655765) ∈ rd_gt := (rd_gt_of 287 rfl rfl)
set_option maxRecDepth 100000 in
theorem kc_J6_266 : Cond.constant RJ6 266 (858993459) ∈ rd_gt := (rd_gt_of 288 rfl rfl)
set_option maxRecDepth 100000 in
theorem kc_J6_267 : Cond.constant RJ6 267 (252645135) ∈ rd_gt := (rd_gt_of 289 rfl rfl)
set_option maxRecDepth 100000 in
theorem km_X4_78 : rd_CV RX4 78 4 yX4_takeScript cX4_takeScript 1 none 0 := ⟨⟨(Or.inl (rd_gt_of 290 rfl rfl)), (rd_gt_of 46 rfl rfl), (rd_gt_of 293 rfl rfl), by decide +kernel, by decide +kernel, by decide⟩, (rd_gt_of 292 rfl rfl), (rd_gt_of 7 rfl rfl), TX4, 14, rfl, by decide⟩
set_option maxRecDepth 100000 in
theorem km_X4_243 : rd_CV RX4 243 1 yX1_orderBits cX1_orderBits 3 (some .int) 0 := ⟨⟨(Or.inl (rd_gt_of 294 rfl rfl)), (rd_gt_of 47 rfl rfl), (rd_gt_of 297 rfl rfl), by decide +kernel, by decide +kernel, by decide⟩, (rd_gt_of 295 rfl rfl), (rd_gt_of 296 rfl rfl), TX1, 6, rfl, by decide⟩
set_option maxRecDepth 100000 in
theorem km_X4_208 : rd_CV RX4 208 3 yX3_begin cX3_begin 2 none 1 := ⟨⟨(Or.inl (rd_gt_of 298 rfl rfl)), (rd_gt_of 48 rfl rfl), (rd_gt_of 301 rfl rfl), by decide +kernel, by decide +kernel, by decide⟩, (rd_gt_of 299 rfl rfl), (rd_gt_of 300 rfl rfl), TX3, 6, rfl, by decide⟩
set_option maxRecDepth 100000 in
theorem km_X3_18 : rd_CV RX3 18 3 yX3_whoAt cX3_whoAt 2 (some .int) 1 := ⟨⟨(Or.inl (rd_gt_of 302 rfl rfl)), (rd_gt_of 48 rfl rfl), (rd_gt_of 305 rfl rfl), by decide +kernel, by decide +kernel, by decide⟩, (rd_gt_of 303 rfl rfl), (rd_gt_of 304 rfl rfl), TX3, 6, rfl, by decide⟩
set_option maxRecDepth 100000 in
theorem km_X4_232 : rd_CV RX4 232 0 yX0_clear cX0_clear 1 none 0 := ⟨⟨(Or.inl (rd_gt_of 306 rfl rfl)), (rd_gt_of 49 rfl rfl), (rd_gt_of 309 rfl rfl), by decide +kernel, by decide +kernel, by decide⟩, (rd_gt_of 307 rfl rfl), (rd_gt_of 308 rfl rfl), TX0, 3, rfl, by decide⟩
set_option maxRecDepth 100000 in
theorem km_X4_81 : rd_CV RX4 81 1 yX1_clear cX1_clear 1 none 0 := ⟨⟨(Or.inl (rd_gt_of 310 rfl rfl)), (rd_gt_of 47 rfl rfl), (rd_gt_of 313 rfl rfl), by decide +kernel, by decide +kernel, by decide⟩, (rd_gt_of 311 rfl rfl), (rd_gt_of 312 rfl rfl), TX1, 6, rfl, by decide⟩
set_option maxRecDepth 100000 in
theorem kf_X4_10 : rd_FL RX4 10 4 0 := ⟨RX4, TX4, 14, tyX4, rfl, kw_X4, tyX4_ok, nmX4, rfl, by decide, by decide, (rd_gt_of 314 rfl rfl)⟩
set_option maxRecDepth 100000 in
theorem kf_X4_19 : rd_FL RX4 19 4 1 := ⟨RX4, TX4, 14, tyX4, rfl, kw_X4, tyX4_ok, nmX4, rfl, by decide, by decide, (rd_gt_of 315 rfl rfl)⟩
set_option maxRecDepth 100000 in
theorem kf_X4_23 : rd_FL RX4 23 4 2 := ⟨RX4, TX4, 14, tyX4, rfl, kw_X4, tyX4_ok, nmX4, rfl, by decide, by decide, (rd_gt_of 316 rfl rfl)⟩
set_option maxRecDepth 100000 in
theorem kf_X4_31 : rd_FL RX4 31 4 3 := ⟨RX4, TX4, 14, tyX4, rfl, kw_X4, tyX4_ok, nmX4, rfl, by decide, by decide, (rd_gt_of 317 rfl rfl)⟩
set_option maxRecDepth 100000 in
theorem kf_X4_35 : rd_FL RX4 35 4 4 := ⟨RX4, TX4, 14, tyX4, rfl, kw_X4, tyX4_ok, nmX4, rfl, by decide, by decide, (rd_gt_of 318 rfl rfl)⟩
set_option maxRecDepth 100000 in
theorem kf_X4_41 : rd_FL RX4 41 4 5 := ⟨RX4, TX4, 14, tyX4, rfl, kw_X4, tyX4_ok, nmX4, rfl, by decide, by decide, (rd_gt_of 319 rfl rfl)⟩
set_option maxRecDepth 100000 in
theorem kf_X4_45 : rd_FL RX4 45 4 6 := ⟨RX4, TX4, 14, tyX4, rfl, kw_X4, tyX4_ok, nmX4, rfl, by decide, by decide, (rd_gt_of 320 rfl rfl)⟩
set_option maxRecDepth 100000 in
theorem kf_X4_49 : rd_FL RX4 49 4 7 := ⟨RX4, TX4, 14, tyX4, rfl, kw_X4, tyX4_ok, nmX4, rfl, by decide, by decide, (rd_gt_of 321 rfl rfl)⟩
set_option maxRecDepth 100000 in
theorem kf_X4_52 : rd_FL RX4 52 4 8 := ⟨RX4, TX4, 14, tyX4, rfl, kw_X4, tyX4_ok, nmX4, rfl, by decide, by decide, (rd_gt_of 322 rfl rfl)⟩
set_option maxRecDepth 100000 in
theorem kf_X4_55 : rd_FL RX4 55 4 9 := ⟨RX4, TX4, 14, tyX4, rfl, kw_X4, tyX4_ok, nmX4, rfl, by decide, by decide, (rd_gt_of 323 rfl rfl)⟩
set_option maxRecDepth 100000 in
theorem kf_X4_190 : rd_FL RX4 190 4 10 := ⟨RX4, TX4, 14, tyX4, rfl, kw_X4, tyX4_ok, nmX4, rfl, by decide, by decide, (rd_gt_of 324 rfl rfl)⟩
set_option maxRecDepth 100000 in
theorem kf_X4_96 : rd_FL RX4 96 4 11 := ⟨RX4, TX4, 14, tyX4, rfl, kw_X4, tyX4_ok, nmX4, rfl, by decide, by decide, (rd_gt_of 325 rfl rfl)⟩
set_option maxRecDepth 100000 in
theorem kf_X4_120 : rd_FL RX4 120 4 12 := ⟨RX4, TX4, 14, tyX4, rfl, kw_X4, tyX4_ok, nmX4, rfl, by decide, by decide, (rd_gt_of 326 rfl rfl)⟩
set_option maxRecDepth 100000 in
theorem kf_X4_90 : rd_FL RX4 90 4 13 := ⟨RX4, TX4, 14, tyX4, rfl, kw_X4, tyX4_ok, nmX4, rfl, by decide, by decide, (rd_gt_of 327 rfl rfl)⟩
set_option maxRecDepth 100000 in
theorem km_L_13 : rd_CV RL 13 4 yX4_write cX4_write 2 (some .int) 1 := ⟨⟨(Or.inl (rd_gt_of 358 rfl rfl)), (rd_gt_of 46 rfl rfl), (rd_gt_of 361 rfl rfl), by decide +kernel, by decide +kernel, by decide⟩, (rd_gt_of 359 rfl rfl), (rd_gt_of 360 rfl rfl), TX4, 14, rfl, by decide⟩
set_option maxRecDepth 100000 in
theorem km_L_18 : rd_CV RL 18 4 yX4_wipe cX4_wipe 2 (some .int) 0 := ⟨⟨(Or.inl (rd_gt_of 362 rfl rfl)), (rd_gt_of 46 rfl rfl), (rd_gt_of 365 rfl rfl), by decide +kernel, by decide +kernel, by decide⟩, (rd_gt_of 363 rfl rfl), (rd_gt_of 364 rfl rfl), TX4, 14, rfl, by decide⟩
set_option maxRecDepth 100000 in
theorem km_L_23 : rd_CV RL 23 4 yX4_fault cX4_fault 1 (some .int) 0 := ⟨⟨(Or.inl (rd_gt_of 366 rfl rfl)), (rd_gt_of 46 rfl rfl), (rd_gt_of 369 rfl rfl), by decide +kernel, by decide +kernel, by decide⟩, (rd_gt_of 367 rfl rfl), (rd_gt_of 368 rfl rfl), TX4, 14, rfl, by decide⟩
set_option maxRecDepth 100000 in
theorem km_X4_87 : rd_CV RX4 87 1 yX1_firstFault cX1_firstFault 5 (some .int) 0 := ⟨⟨(Or.inl (rd_gt_of 370 rfl rfl)), (rd_gt_of 47 rfl rfl), (rd_gt_of 249 rfl rfl), by decide +kernel, by decide +kernel, by decide⟩, (rd_gt_of 247 rfl rfl), (rd_gt_of 248 rfl rfl), TX1, 6, rfl, by decide⟩
set_option maxRecDepth 100000 in
theorem km_L_27 : rd_CV RL 27 4 yX4_lay cX4_lay 1 (some .int) 0 := ⟨⟨(Or.inl (rd_gt_of 371 rfl rfl)), (rd_gt_of 46 rfl rfl), (rd_gt_of 374 rfl rfl), by decide +kernel, by decide +kernel, by decide⟩, (rd_gt_of 372 rfl rfl), (rd_gt_of 373 rfl rfl), TX4, 14, rfl, by decide⟩
set_option maxRecDepth 100000 in
theorem km_L_31 : rd_CV RL 31 4 yX4_dancer cX4_dancer 3 (some .int) 2 := ⟨⟨(Or.inl (rd_gt_of 375 rfl rfl)), (rd_gt_of 46 rfl rfl), (rd_gt_of 378 rfl rfl), by decide +kernel, by decide +kernel, by decide⟩, (rd_gt_of 376 rfl rfl), (rd_gt_of 377 rfl rfl), TX4, 14, rfl, by decide⟩
set_option maxRecDepth 100000 in
theorem km_X4_93 : rd_CS RX4 93 yX4_isDancer cX4_isDancer 1 (some .boolean) 1 := ⟨⟨(Or.inl (rd_gt_of 379 rfl rfl)), (rd_gt_of 46 rfl rfl), (rd_gt_of 381 rfl rfl), by decide +kernel, by decide +kernel, by decide⟩, (rd_gt_of 380 rfl rfl)⟩
set_option maxRecDepth 100000 in
theorem km_X4_99 : rd_CS RX4 99 yX4_kindOf cX4_kindOf 2 (some .int) 2 := ⟨⟨(Or.inl (rd_gt_of 382 rfl rfl)), (rd_gt_of 46 rfl rfl), (rd_gt_of 384 rfl rfl), by decide +kernel, by decide +kernel, by decide⟩, (rd_gt_of 383 rfl rfl)⟩
set_option maxRecDepth 100000 in
theorem km_X4_103 : rd_CV RX4 103 3 yX3_placeOf cX3_placeOf 3 (some .int) 1 := ⟨⟨(Or.inl (rd_gt_of 385 rfl rfl)), (rd_gt_of 48 rfl rfl), (rd_gt_of 388 rfl rfl), by decide +kernel, by decide +kernel, by decide⟩, (rd_gt_of 386 rfl rfl), (rd_gt_of 387 rfl rfl), TX3, 6, rfl, by decide⟩
set_option maxRecDepth 100000 in
theorem km_X4_107 : rd_CV RX4 107 3 yX3_ropeOf cX3_ropeOf 2 (some .int) 1 := ⟨⟨(Or.inl (rd_gt_of 389 rfl rfl)), (rd_gt_of 48 rfl rfl), (rd_gt_of 392 rfl rfl), by decide +kernel, by decide +kernel, by decide⟩, (rd_gt_of 390 rfl rfl), (rd_gt_of 391 rfl rfl), TX3, 6, rfl, by decide⟩
set_option maxRecDepth 100000 in
theorem km_L_36 : rd_CV RL 36 4 yX4_place cX4_place 4 (some .int) 2 := ⟨⟨(Or.inl (rd_gt_of 393 rfl rfl)), (rd_gt_of 46 rfl rfl), (rd_gt_of 396 rfl rfl), by decide +kernel, by decide +kernel, by decide⟩, (rd_gt_of 394 rfl rfl), (rd_gt_of 395 rfl rfl), TX4, 14, rfl, by decide⟩
set_option maxRecDepth 100000 in
theorem km_X4_110 : rd_CV RX4 110 3 yX3_whoAt cX3_whoAt 2 (some .int) 1 := ⟨⟨(Or.inl (rd_gt_of 397 rfl rfl)), (rd_gt_of 48 rfl rfl), (rd_gt_of 305 rfl rfl), by decide +kernel, by decide +kernel, by decide⟩, (rd_gt_of 303 rfl rfl), (rd_gt_of 304 rfl rfl), TX3, 6, rfl, by decide⟩
set_option maxRecDepth 100000 in
theorem km_L_40 : rd_CV RL 40 4 yX4_wound cX4_wound 2 (some .int) 1 := ⟨⟨(Or.inl (rd_gt_of 398 rfl rfl)), (rd_gt_of 46 rfl rfl), (rd_gt_of 401 rfl rfl), by decide +kernel, by decide +kernel, by decide⟩, (rd_gt_of 399 rfl rfl), (rd_gt_of 400 rfl rfl), TX4, 14, rfl, by decide⟩
set_option maxRecDepth 100000 in
theorem kc_X4_113 : Cond.constant RX4 113 (-100000) ∈ rd_gt := (rd_gt_of 402 rfl rfl)
set_option maxRecDepth 100000 in
theorem km_L_44 : rd_CV RL 44 4 yX4_row cX4_row 2 (some .int) 1 := ⟨⟨(Or.inl (rd_gt_of 403 rfl rfl)), (rd_gt_of 46 rfl rfl), (rd_gt_of 406 rfl rfl), by decide +kernel, by decide +kernel, by decide⟩, (rd_gt_of 404 rfl rfl), (rd_gt_of 405 rfl rfl), TX4, 14, rfl, by decide⟩
set_option maxRecDepth 100000 in
theorem km_X4_123 : rd_CS RX4 123 yX4_pairAt cX4_pairAt 2 (some .int) 2 := ⟨⟨(Or.inl (rd_gt_of 407 rfl rfl)), (rd_gt_of 46 rfl rfl), (rd_gt_of 283 rfl rfl), by decide +kernel, by decide +kernel, by decide⟩, (rd_gt_of 282 rfl rfl)⟩
set_option maxRecDepth 100000 in
theorem km_L_48 : rd_CV RL 48 4 yX4_dance cX4_dance 3 (some .int) 1 := ⟨⟨(Or.inl (rd_gt_of 408 rfl rfl)), (rd_gt_of 46 rfl rfl), (rd_gt_of 411 rfl rfl), by decide +kernel, by decide +kernel, by decide⟩, (rd_gt_of 409 rfl rfl), (rd_gt_of 410 rfl rfl), TX4, 14, rfl, by decide⟩
set_option maxRecDepth 100000 in
theorem km_X4_126 : rd_CV RX4 126 3 yX3_twistsOf cX3_twistsOf 5 (some .int) 2 := ⟨⟨(Or.inl (rd_gt_of 412 rfl rfl)), (rd_gt_of 48 rfl rfl), (rd_gt_of 415 rfl rfl), by decide +kernel, by decide +kernel, by decide⟩, (rd_gt_of 413 rfl rfl), (rd_gt_of 414 rfl rfl), TX3, 6, rfl, by decide⟩
set_option maxRecDepth 100000 in
theorem km_X3_34 : rd_CS RX3 34 yX4_kindOf cX4_kindOf 2 (some .int) 2 := ⟨⟨(Or.inr ⟨"RopeDance", rd_nw_of 416 rfl⟩), (rd_gt_of 46 rfl rfl), (rd_gt_of 384 rfl rfl), by decide +kernel, by decide +kernel, by decide⟩, (rd_gt_of 383 rfl rfl)⟩
set_option maxRecDepth 100000 in
theorem km_X3_38 : rd_CV RX3 38 3 yX3_ropeOf cX3_ropeOf 2 (some .int) 1 := ⟨⟨(Or.inl (rd_gt_of 417 rfl rfl)), (rd_gt_of 48 rfl rfl), (rd_gt_of 392 rfl rfl), by decide +kernel, by decide +kernel, by decide⟩, (rd_gt_of 390 rfl rfl), (rd_gt_of 391 rfl rfl), TX3, 6, rfl, by decide⟩
set_option maxRecDepth 100000 in
theorem km_X4_129 : rd_CV RX4 129 3 yX3_isTooTight cX3_isTooTight 2 (some .boolean) 1 := ⟨⟨(Or.inl (rd_gt_of 418 rfl rfl)), (rd_gt_of 48 rfl rfl), (rd_gt_of 421 rfl rfl), by decide +kernel, by decide +kernel, by decide⟩, (rd_gt_of 419 rfl rfl), (rd_gt_of 420 rfl rfl), TX3, 6, rfl, by decide⟩
set_option maxRecDepth 100000 in
theorem kl_X3_41 : Cond.methodLink RX3 41 Lib.Math.abs.name ∈ rd_gt := (rd_gt_of 422 rfl rfl)
set_option maxRecDepth 100000 in
theorem km_X4_132 : rd_CV RX4 132 0 yX0_push cX0_push 2 none 1 := ⟨⟨(Or.inl (rd_gt_of 425 rfl rfl)), (rd_gt_of 49 rfl rfl), (rd_gt_of 428 rfl rfl), by decide +kernel, by decide +kernel, by decide⟩, (rd_gt_of 426 rfl rfl), (rd_gt_of 427 rfl rfl), TX0, 3, rfl, by decide⟩
set_option maxRecDepth 100000 in
theorem km_X0_29 : rd_CV RX0 29 3 yX3_take cX3_take 2 none 1 := ⟨⟨(Or.inl (rd_gt_of 429 rfl rfl)), (rd_gt_of 48 rfl rfl), (rd_gt_of 432 rfl rfl), by decide +kernel, by decide +kernel, by decide⟩, (rd_gt_of 430 rfl rfl), (rd_gt_of 431 rfl rfl), TX3, 6, rfl, by decide⟩
set_option maxRecDepth 100000 in
theorem kl_X0_33 : Cond.methodLink RX0 33 Lib.Math.min.name ∈ rd_gt := (rd_gt_of 433 rfl rfl)
set_option maxRecDepth 100000 in
theorem km_X4_136 : rd_CV RX4 136 3 yX3_step cX3_step 4 (some .boolean) 2 := ⟨⟨(Or.inl (rd_gt_of 436 rfl rfl)), (rd_gt_of 48 rfl rfl), (rd_gt_of 439 rfl rfl), by decide +kernel, by decide +kernel, by decide⟩, (rd_gt_of 437 rfl rfl), (rd_gt_of 438 rfl rfl), TX3, 6, rfl, by decide⟩
set_option maxRecDepth 100000 in
theorem km_X3_46 : rd_CV RX3 46 3 yX3_twistsOf cX3_twistsOf 5 (some .int) 2 := ⟨⟨(Or.inl (rd_gt_of 440 rfl rfl)), (rd_gt_of 48 rfl rfl), (rd_gt_of 415 rfl rfl), by decide +kernel, by decide +kernel, by decide⟩, (rd_gt_of 413 rfl rfl), (rd_gt_of 414 rfl rfl), TX3, 6, rfl, by decide⟩
set_option maxRecDepth 100000 in
theorem km_X3_49 : rd_CV RX3 49 3 yX3_isTooTight cX3_isTooTight 2 (some .boolean) 1 := ⟨⟨(Or.inl (rd_gt_of 441 rfl rfl)), (rd_gt_of 48 rfl rfl), (rd_gt_of 421 rfl rfl), by decide +kernel, by decide +kernel, by decide⟩, (rd_gt_of 419 rfl rfl), (rd_gt_of 420 rfl rfl), TX3, 6, rfl, by decide⟩
set_option maxRecDepth 100000 in
theorem km_X3_53 : rd_CV RX3 53 3 yX3_turnAll cX3_turnAll 2 none 0 := ⟨⟨(Or.inl (rd_gt_of 442 rfl rfl)), (rd_gt_of 48 rfl rfl), (rd_gt_of 445 rfl rfl), by decide +kernel, by decide +kernel, by decide⟩, (rd_gt_of 444 rfl rfl), (rd_gt_of 8 rfl rfl), TX3, 6, rfl, by decide⟩
set_option maxRecDepth 100000 in
theorem km_X3_56 : rd_CV RX3 56 3 yX3_swapPlaces cX3_swapPlaces 4 none 2 := ⟨⟨(Or.inl (rd_gt_of 446 rfl rfl)), (rd_gt_of 48 rfl rfl), (rd_gt_of 449 rfl rfl), by decide +kernel, by decide +kernel, by decide⟩, (rd_gt_of 448 rfl rfl), (rd_gt_of 9 rfl rfl), TX3, 6, rfl, by decide⟩
set_option maxRecDepth 100000 in
theorem km_L_52 : rd_CV RL 52 4 yX4_put cX4_put 3 (some .int) 2 := ⟨⟨(Or.inl (rd_gt_of 450 rfl rfl)), (rd_gt_of 46 rfl rfl), (rd_gt_of 453 rfl rfl), by decide +kernel, by decide +kernel, by decide⟩, (rd_gt_of 451 rfl rfl), (rd_gt_of 452 rfl rfl), TX4, 14, rfl, by decide⟩
set_option maxRecDepth 100000 in
theorem km_X4_140 : rd_CS RX4 140 yX4_areTwo cX4_areTwo 2 (some .boolean) 2 := ⟨⟨(Or.inl (rd_gt_of 454 rfl rfl)), (rd_gt_of 46 rfl rfl), (rd_gt_of 456 rfl rfl), by decide +kernel, by decide +kernel, by decide⟩, (rd_gt_of 455 rfl rfl)⟩
set_option maxRecDepth 100000 in
theorem km_X4_143 : rd_CV RX4 143 3 yX3_exchange cX3_exchange 4 none 2 := ⟨⟨(Or.inl (rd_gt_of 457 rfl rfl)), (rd_gt_of 48 rfl rfl), (rd_gt_of 460 rfl rfl), by decide +kernel, by decide +kernel, by decide⟩, (rd_gt_of 458 rfl rfl), (rd_gt_of 459 rfl rfl), TX3, 6, rfl, by decide⟩
set_option maxRecDepth 100000 in
theorem km_X3_60 : rd_CV RX3 60 3 yX3_placeOf cX3_placeOf 3 (some .int) 1 := ⟨⟨(Or.inl (rd_gt_of 461 rfl rfl)), (rd_gt_of 48 rfl rfl), (rd_gt_of 388 rfl rfl), by decide +kernel, by decide +kernel, by decide⟩, (rd_gt_of 386 rfl rfl), (rd_gt_of 387 rfl rfl), TX3, 6, rfl, by decide⟩
set_option maxRecDepth 100000 in
theorem km_L_56 : rd_CV RL 56 4 yX4_undo cX4_undo 1 (some .int) 0 := ⟨⟨(Or.inl (rd_gt_of 462 rfl rfl)), (rd_gt_of 46 rfl rfl), (rd_gt_of 465 rfl rfl), by decide +kernel, by decide +kernel, by decide⟩, (rd_gt_of 463 rfl rfl), (rd_gt_of 464 rfl rfl), TX4, 14, rfl, by decide⟩
set_option maxRecDepth 100000 in
theorem km_X4_147 : rd_CV RX4 147 0 yX0_pop cX0_pop 2 (some .boolean) 1 := ⟨⟨(Or.inl (rd_gt_of 466 rfl rfl)), (rd_gt_of 49 rfl rfl), (rd_gt_of 469 rfl rfl), by decide +kernel, by decide +kernel, by decide⟩, (rd_gt_of 467 rfl rfl), (rd_gt_of 468 rfl rfl), TX0, 3, rfl, by decide⟩
set_option maxRecDepth 100000 in
theorem km_L_60 : rd_CV RL 60 4 yX4_free cX4_free 2 (some .int) 1 := ⟨⟨(Or.inl (rd_gt_of 470 rfl rfl)), (rd_gt_of 46 rfl rfl), (rd_gt_of 473 rfl rfl), by decide +kernel, by decide +kernel, by decide⟩, (rd_gt_of 471 rfl rfl), (rd_gt_of 472 rfl rfl), TX4, 14, rfl, by decide⟩
set_option maxRecDepth 100000 in
theorem km_X4_154 : rd_CS RX4 154 yX4_isRowIndex cX4_isRowIndex 1 (some .boolean) 1 := ⟨⟨(Or.inl (rd_gt_of 474 rfl rfl)), (rd_gt_of 46 rfl rfl), (rd_gt_of 476 rfl rfl), by decide +kernel, by decide +kernel, by decide⟩, (rd_gt_of 475 rfl rfl)⟩
set_option maxRecDepth 100000 in
theorem km_X4_157 : rd_CV RX4 157 2 yX2_aimAtWound cX2_aimAtWound 3 none 2 := ⟨⟨(Or.inl (rd_gt_of 477 rfl rfl)), (rd_gt_of 51 rfl rfl), (rd_gt_of 480 rfl rfl), by decide +kernel, by decide +kernel, by decide⟩, (rd_gt_of 478 rfl rfl), (rd_gt_of 479 rfl rfl), TX2, 9, rfl, by decide⟩
set_option maxRecDepth 100000 in
theorem km_X4_160 : rd_CV RX4 160 4 yX4_figureOfFewest cX4_figureOfFewest 2 (some .int) 1 := ⟨⟨(Or.inl (rd_gt_of 481 rfl rfl)), (rd_gt_of 46 rfl rfl), (rd_gt_of 484 rfl rfl), by decide +kernel, by decide +kernel, by decide⟩, (rd_gt_of 483 rfl rfl), (rd_gt_of 10 rfl rfl), TX4, 14, rfl, by decide⟩
set_option maxRecDepth 100000 in
theorem km_X4_169 : rd_CV RX4 169 2 yX2_startFrom cX2_startFrom 3 none 2 := ⟨⟨(Or.inl (rd_gt_of 485 rfl rfl)), (rd_gt_of 51 rfl rfl), (rd_gt_of 488 rfl rfl), by decide +kernel, by decide +kernel, by decide⟩, (rd_gt_of 486 rfl rfl), (rd_gt_of 487 rfl rfl), TX2, 9, rfl, by decide⟩
set_option maxRecDepth 100000 in
theorem km_X2_35 : rd_CV RX2 35 3 yX3_take cX3_take 2 none 1 := ⟨⟨(Or.inl (rd_gt_of 489 rfl rfl)), (rd_gt_of 48 rfl rfl), (rd_gt_of 432 rfl rfl), by decide +kernel, by decide +kernel, by decide⟩, (rd_gt_of 430 rfl rfl), (rd_gt_of 431 rfl rfl), TX3, 6, rfl, by decide⟩
set_option maxRecDepth 100000 in
theorem km_X4_246 : rd_CS RX4 246 yX2_seek cX2_seek 4 none 3 := ⟨⟨(Or.inr ⟨"RopeDance", rd_nw_of 490 rfl⟩), (rd_gt_of 51 rfl rfl), (rd_gt_of 492 rfl rfl), by decide +kernel, by decide +kernel, by decide⟩, (rd_gt_of 491 rfl rfl)⟩
set_option maxRecDepth 100000 in
theorem km_X2_74 : rd_CV RX2 74 2 yX2_isAtGoal cX2_isAtGoal 3 (some .boolean) 1 := ⟨⟨(Or.inl (rd_gt_of 493 rfl rfl)), (rd_gt_of 51 rfl rfl), (rd_gt_of 496 rfl rfl), by decide +kernel, by decide +kernel, by decide⟩, (rd_gt_of 495 rfl rfl), (rd_gt_of 11 rfl rfl), TX2, 9, rfl, by decide⟩
set_option maxRecDepth 100000 in
theorem km_X2_48 : rd_CV RX2 48 3 yX3_placeOf cX3_placeOf 3 (some .int) 1 := ⟨⟨(Or.inl (rd_gt_of 497 rfl rfl)), (rd_gt_of 48 rfl rfl), (rd_gt_of 388 rfl rfl), by decide +kernel, by decide +kernel, by decide⟩, (rd_gt_of 386 rfl rfl), (rd_gt_of 387 rfl rfl), TX3, 6, rfl, by decide⟩
set_option maxRecDepth 100000 in
theorem km_X2_52 : rd_CV RX2 52 3 yX3_isWoundAs cX3_isWoundAs 3 (some .boolean) 2 := ⟨⟨(Or.inl (rd_gt_of 498 rfl rfl)), (rd_gt_of 48 rfl rfl), (rd_gt_of 501 rfl rfl), by decide +kernel, by decide +kernel, by decide⟩, (rd_gt_of 499 rfl rfl), (rd_gt_of 500 rfl rfl), TX3, 6, rfl, by decide⟩
set_option maxRecDepth 100000 in
theorem km_X2_78 : rd_CV RX2 78 2 yX2_goOn cX2_goOn 3 (some .boolean) 2 := ⟨⟨(Or.inl (rd_gt_of 502 rfl rfl)), (rd_gt_of 51 rfl rfl), (rd_gt_of 505 rfl rfl), by decide +kernel, by decide +kernel, by decide⟩, (rd_gt_of 504 rfl rfl), (rd_gt_of 12 rfl rfl), TX2, 9, rfl, by decide⟩
set_option maxRecDepth 100000 in
theorem km_X2_56 : rd_CV RX2 56 3 yX3_step cX3_step 4 (some .boolean) 2 := ⟨⟨(Or.inl (rd_gt_of 506 rfl rfl)), (rd_gt_of 48 rfl rfl), (rd_gt_of 439 rfl rfl), by decide +kernel, by decide +kernel, by decide⟩, (rd_gt_of 437 rfl rfl), (rd_gt_of 438 rfl rfl), TX3, 6, rfl, by decide⟩
set_option maxRecDepth 100000 in
theorem km_X2_81 : rd_CS RX2 81 yX2_seek cX2_seek 4 none 3 := ⟨⟨(Or.inl (rd_gt_of 507 rfl rfl)), (rd_gt_of 51 rfl rfl), (rd_gt_of 492 rfl rfl), by decide +kernel, by decide +kernel, by decide⟩, (rd_gt_of 491 rfl rfl)⟩
set_option maxRecDepth 100000 in
theorem km_X4_250 : rd_CV RX4 250 2 yX2_isFound cX2_isFound 1 (some .boolean) 0 := ⟨⟨(Or.inl (rd_gt_of 508 rfl rfl)), (rd_gt_of 51 rfl rfl), (rd_gt_of 511 rfl rfl), by decide +kernel, by decide +kernel, by decide⟩, (rd_gt_of 509 rfl rfl), (rd_gt_of 510 rfl rfl), TX2, 9, rfl, by decide⟩
set_option maxRecDepth 100000 in
theorem km_L_64 : rd_CV RL 64 4 yX4_reach cX4_reach 4 (some .int) 3 := ⟨⟨(Or.inl (rd_gt_of 512 rfl rfl)), (rd_gt_of 46 rfl rfl), (rd_gt_of 515 rfl rfl), by decide +kernel, by decide +kernel, by decide⟩, (rd_gt_of 513 rfl rfl), (rd_gt_of 514 rfl rfl), TX4, 14, rfl, by decide⟩
set_option maxRecDepth 100000 in
theorem km_X4_163 : rd_CS RX4 163 yX4_isFraction cX4_isFraction 2 (some .boolean) 2 := ⟨⟨(Or.inl (rd_gt_of 516 rfl rfl)), (rd_gt_of 46 rfl rfl), (rd_gt_of 518 rfl rfl), by decide +kernel, by decide +kernel, by decide⟩, (rd_gt_of 517 rfl rfl)⟩
set_option maxRecDepth 100000 in
theorem kl_X4_285 : Cond.methodLink RX4 285 Lib.Math.abs.name ∈ rd_gt := (rd_gt_of 519 rfl rfl)
set_option maxRecDepth 100000 in
theorem km_X4_223 : rd_CS RX4 223 yX4_commonDivisor cX4_commonDivisor 6 (some .int) 2 := ⟨⟨(Or.inl (rd_gt_of 520 rfl rfl)), (rd_gt_of 46 rfl rfl), (rd_gt_of 522 rfl rfl), by decide +kernel, by decide +kernel, by decide⟩, (rd_gt_of 521 rfl rfl)⟩
set_option maxRecDepth 100000 in
theorem km_L_69 : rd_CV RL 69 4 yX4_meet cX4_meet 4 (some .int) 3 := ⟨⟨(Or.inl (rd_gt_of 523 rfl rfl)), (rd_gt_of 46 rfl rfl), (rd_gt_of 526 rfl rfl), by decide +kernel, by decide +kernel, by decide⟩, (rd_gt_of 524 rfl rfl), (rd_gt_of 525 rfl rfl), TX4, 14, rfl, by decide⟩
set_option maxRecDepth 100000 in
theorem km_X4_166 : rd_CV RX4 166 2 yX2_aimAtMeeting cX2_aimAtMeeting 3 none 2 := ⟨⟨(Or.inl (rd_gt_of 527 rfl rfl)), (rd_gt_of 51 rfl rfl), (rd_gt_of 530 rfl rfl), by decide +kernel, by decide +kernel, by decide⟩, (rd_gt_of 528 rfl rfl), (rd_gt_of 529 rfl rfl), TX2, 9, rfl, by decide⟩
set_option maxRecDepth 100000 in
theorem km_L_73 : rd_CV RL 73 4 yX4_ways cX4_ways 2 (some .int) 1 := ⟨⟨(Or.inl (rd_gt_of 531 rfl rfl)), (rd_gt_of 46 rfl rfl), (rd_gt_of 534 rfl rfl), by decide +kernel, by decide +kernel, by decide⟩, (rd_gt_of 532 rfl rfl), (rd_gt_of 533 rfl rfl), TX4, 14, rfl, by decide⟩
set_option maxRecDepth 100000 in
theorem km_X4_173 : rd_CS RX4 173 yX2_rowsFrom cX2_rowsFrom 5 (some .int) 3 := ⟨⟨(Or.inr ⟨"RopeDance", rd_nw_of 535 rfl⟩), (rd_gt_of 51 rfl rfl), (rd_gt_of 537 rfl rfl), by decide +kernel, by decide +kernel, by decide⟩, (rd_gt_of 536 rfl rfl)⟩
set_option maxRecDepth 100000 in
theorem km_X2_85 : rd_CS RX2 85 yX2_rowsFrom cX2_rowsFrom 5 (some .int) 3 := ⟨⟨(Or.inl (rd_gt_of 538 rfl rfl)), (rd_gt_of 51 rfl rfl), (rd_gt_of 537 rfl rfl), by decide +kernel, by decide +kernel, by decide⟩, (rd_gt_of 536 rfl rfl)⟩
set_option maxRecDepth 100000 in
theorem km_L_77 : rd_CV RL 77 4 yX4_plain cX4_plain 2 (some .int) 0 := ⟨⟨(Or.inl (rd_gt_of 539 rfl rfl)), (rd_gt_of 46 rfl rfl), (rd_gt_of 542 rfl rfl), by decide +kernel, by decide +kernel, by decide⟩, (rd_gt_of 540 rfl rfl), (rd_gt_of 541 rfl rfl), TX4, 14, rfl, by decide⟩
set_option maxRecDepth 100000 in
theorem km_X4_177 : rd_CV RX4 177 3 yX3_take cX3_take 2 none 1 := ⟨⟨(Or.inl (rd_gt_of 543 rfl rfl)), (rd_gt_of 48 rfl rfl), (rd_gt_of 432 rfl rfl), by decide +kernel, by decide +kernel, by decide⟩, (rd_gt_of 430 rfl rfl), (rd_gt_of 431 rfl rfl), TX3, 6, rfl, by decide⟩
set_option maxRecDepth 100000 in
theorem km_L_81 : rd_CV RL 81 4 yX4_comes cX4_comes 2 (some .int) 1 := ⟨⟨(Or.inl (rd_gt_of 544 rfl rfl)), (rd_gt_of 46 rfl rfl), (rd_gt_of 547 rfl rfl), by decide +kernel, by decide +kernel, by decide⟩, (rd_gt_of 545 rfl rfl), (rd_gt_of 546 rfl rfl), TX4, 14, rfl, by decide⟩
set_option maxRecDepth 100000 in
theorem km_X4_180 : rd_CV RX4 180 4 yX4_tryRow cX4_tryRow 5 (some .boolean) 2 := ⟨⟨(Or.inl (rd_gt_of 548 rfl rfl)), (rd_gt_of 46 rfl rfl), (rd_gt_of 551 rfl rfl), by decide +kernel, by decide +kernel, by decide⟩, (rd_gt_of 550 rfl rfl), (rd_gt_of 13 rfl rfl), TX4, 14, rfl, by decide⟩
set_option maxRecDepth 100000 in
theorem kl_X4_214 : Cond.methodLink RX4 214 Lib.Math.min.name ∈ rd_gt := (rd_gt_of 552 rfl rfl)
set_option maxRecDepth 100000 in
theorem km_L_85 : rd_CV RL 85 4 yX4_behind cX4_behind 3 (some .int) 2 := ⟨⟨(Or.inl (rd_gt_of 553 rfl rfl)), (rd_gt_of 46 rfl rfl), (rd_gt_of 556 rfl rfl), by decide +kernel, by decide +kernel, by decide⟩, (rd_gt_of 554 rfl rfl), (rd_gt_of 555 rfl rfl), TX4, 14, rfl, by decide⟩
set_option maxRecDepth 100000 in
theorem km_X4_186 : rd_CS RX4 186 yX4_isRowLength cX4_isRowLength 1 (some .boolean) 1 := ⟨⟨(Or.inl (rd_gt_of 557 rfl rfl)), (rd_gt_of 46 rfl rfl), (rd_gt_of 559 rfl rfl), by decide +kernel, by decide +kernel, by decide⟩, (rd_gt_of 558 rfl rfl)⟩
set_option maxRecDepth 100000 in
theorem kc_X4_189 : Cond.constant RX4 189 (-100001) ∈ rd_gt := (rd_gt_of 560 rfl rfl)
set_option maxRecDepth 100000 in
theorem km_L_89 : rd_CV RL 89 4 yX4_see cX4_see 4 (some .int) 3 := ⟨⟨(Or.inl (rd_gt_of 561 rfl rfl)), (rd_gt_of 46 rfl rfl), (rd_gt_of 564 rfl rfl), by decide +kernel, by decide +kernel, by decide⟩, (rd_gt_of 562 rfl rfl), (rd_gt_of 563 rfl rfl), TX4, 14, rfl, by decide⟩
set_option maxRecDepth 100000 in
theorem km_L_93 : rd_CV RL 93 4 yX4_forget cX4_forget 2 (some .int) 0 := ⟨⟨(Or.inl (rd_gt_of 565 rfl rfl)), (rd_gt_of 46 rfl rfl), (rd_gt_of 568 rfl rfl), by decide +kernel, by decide +kernel, by decide⟩, (rd_gt_of 566 rfl rfl), (rd_gt_of 567 rfl rfl), TX4, 14, rfl, by decide⟩
set_option maxRecDepth 100000 in
theorem km_L_97 : rd_CV RL 97 4 yX4_kinds cX4_kinds 2 (some .int) 1 := ⟨⟨(Or.inl (rd_gt_of 569 rfl rfl)), (rd_gt_of 46 rfl rfl), (rd_gt_of 572 rfl rfl), by decide +kernel, by decide +kernel, by decide⟩, (rd_gt_of 570 rfl rfl), (rd_gt_of 571 rfl rfl), TX4, 14, rfl, by decide⟩
set_option maxRecDepth 100000 in
theorem km_X4_193 : rd_CV RX4 193 4 yX4_possibleKinds cX4_possibleKinds 4 (some .int) 1 := ⟨⟨(Or.inl (rd_gt_of 573 rfl rfl)), (rd_gt_of 46 rfl rfl), (rd_gt_of 576 rfl rfl), by decide +kernel, by decide +kernel, by decide⟩, (rd_gt_of 575 rfl rfl), (rd_gt_of 14 rfl rfl), TX4, 14, rfl, by decide⟩
set_option maxRecDepth 100000 in
theorem km_X4_259 : rd_CS RX4 259 yX4_withKind cX4_withKind 3 (some .int) 3 := ⟨⟨(Or.inl (rd_gt_of 577 rfl rfl)), (rd_gt_of 46 rfl rfl), (rd_gt_of 276 rfl rfl), by decide +kernel, by decide +kernel, by decide⟩, (rd_gt_of 275 rfl rfl)⟩
set_option maxRecDepth 100000 in
theorem km_X4_262 : rd_CV RX4 262 4 yX4_explainsSeen cX4_explainsSeen 3 (some .boolean) 1 := ⟨⟨(Or.inl (rd_gt_of 578 rfl rfl)), (rd_gt_of 46 rfl rfl), (rd_gt_of 581 rfl rfl), by decide +kernel, by decide +kernel, by decide⟩, (rd_gt_of 580 rfl rfl), (rd_gt_of 15 rfl rfl), TX4, 14, rfl, by decide⟩
set_option maxRecDepth 100000 in
theorem km_X4_265 : rd_CV RX4 265 3 yX3_isWoundAs cX3_isWoundAs 3 (some .boolean) 2 := ⟨⟨(Or.inl (rd_gt_of 582 rfl rfl)), (rd_gt_of 48 rfl rfl), (rd_gt_of 501 rfl rfl), by decide +kernel, by decide +kernel, by decide⟩, (rd_gt_of 499 rfl rfl), (rd_gt_of 500 rfl rfl), TX3, 6, rfl, by decide⟩
set_option maxRecDepth 100000 in
theorem km_L_101 : rd_CV RL 101 4 yX4_look cX4_look 8 (some .int) 2 := ⟨⟨(Or.inl (rd_gt_of 583 rfl rfl)), (rd_gt_of 46 rfl rfl), (rd_gt_of 586 rfl rfl), by decide +kernel, by decide +kernel, by decide⟩, (rd_gt_of 584 rfl rfl), (rd_gt_of 585 rfl rfl), TX4, 14, rfl, by decide⟩
set_option maxRecDepth 100000 in
theorem km_X4_196 : rd_CS RX4 196 yJ6_bitCount_0f7a4 cJ6_bitCount_0f7a4 1 (some .int) 1 := ⟨⟨(Or.inl (rd_gt_of 587 rfl rfl)), (rd_gt_of 56 rfl rfl), (rd_gt_of 286 rfl rfl), by decide +kernel, by decide +kernel, by decide⟩, (rd_gt_of 285 rfl rfl)⟩
set_option maxRecDepth 100000 in
theorem km_X4_201 : rd_CV RX4 201 4 yX4_greatestPart cX4_greatestPart 7 (some .int) 3 := ⟨⟨(Or.inl (rd_gt_of 588 rfl rfl)), (rd_gt_of 46 rfl rfl), (rd_gt_of 591 rfl rfl), by decide +kernel, by decide +kernel, by decide⟩, (rd_gt_of 590 rfl rfl), (rd_gt_of 16 rfl rfl), TX4, 14, rfl, by decide⟩
set_option maxRecDepth 100000 in
theorem km_X4_268 : rd_CV RX4 268 3 yX3_woundCode cX3_woundCode 1 (some .int) 0 := ⟨⟨(Or.inl (rd_gt_of 592 rfl rfl)), (rd_gt_of 48 rfl rfl), (rd_gt_of 595 rfl rfl), by decide +kernel, by decide +kernel, by decide⟩, (rd_gt_of 593 rfl rfl), (rd_gt_of 594 rfl rfl), TX3, 6, rfl, by decide⟩
set_option maxRecDepth 100000 in
theorem kc_X4_271 : Cond.constant RX4 271 (1000000000) ∈ rd_gt := (rd_gt_of 596 rfl rfl)
set_option maxRecDepth 100000 in
theorem kc_X4_272 : Cond.constant RX4 272 (1000000001) ∈ rd_gt := (rd_gt_of 597 rfl rfl)
set_option maxRecDepth 100000 in
theorem km_X4_273 : rd_CV RX4 273 4 yX4_partOf cX4_partOf 4 (some .int) 1 := ⟨⟨(Or.inl (rd_gt_of 598 rfl rfl)), (rd_gt_of 46 rfl rfl), (rd_gt_of 601 rfl rfl), by decide +kernel, by decide +kernel, by decide⟩, (rd_gt_of 600 rfl rfl), (rd_gt_of 17 rfl rfl), TX4, 14, rfl, by decide⟩
set_option maxRecDepth 100000 in
theorem kl_X4_276 : Cond.methodLink RX4 276 Lib.Math.max.name ∈ rd_gt := (rd_gt_of 602 rfl rfl)
set_option maxRecDepth 100000 in
theorem km_L_105 : rd_CV RL 105 4 yX4_danced cX4_danced 2 (some .int) 1 := ⟨⟨(Or.inl (rd_gt_of 603 rfl rfl)), (rd_gt_of 46 rfl rfl), (rd_gt_of 606 rfl rfl), by decide +kernel, by decide +kernel, by decide⟩, (rd_gt_of 604 rfl rfl), (rd_gt_of 605 rfl rfl), TX4, 14, rfl, by decide⟩
set_option maxRecDepth 100000 in
theorem km_L_109 : rd_CV RL 109 4 yX4_duel cX4_duel 2 (some .int) 1 := ⟨⟨(Or.inl (rd_gt_of 607 rfl rfl)), (rd_gt_of 46 rfl rfl), (rd_gt_of 610 rfl rfl), by decide +kernel, by decide +kernel, by decide⟩, (rd_gt_of 608 rfl rfl), (rd_gt_of 609 rfl rfl), TX4, 14, rfl, by decide⟩
set_option maxRecDepth 100000 in
theorem km_X4_211 : rd_CS RX4 211 yX2_bestFrom cX2_bestFrom 5 (some .int) 3 := ⟨⟨(Or.inr ⟨"RopeDance", rd_nw_of 611 rfl⟩), (rd_gt_of 51 rfl rfl), (rd_gt_of 613 rfl rfl), by decide +kernel, by decide +kernel, by decide⟩, (rd_gt_of 612 rfl rfl)⟩
set_option maxRecDepth 100000 in
theorem km_X2_89 : rd_CV RX2 89 2 yX2_greaterPart cX2_greaterPart 2 (some .int) 1 := ⟨⟨(Or.inl (rd_gt_of 614 rfl rfl)), (rd_gt_of 51 rfl rfl), (rd_gt_of 617 rfl rfl), by decide +kernel, by decide +kernel, by decide⟩, (rd_gt_of 616 rfl rfl), (rd_gt_of 18 rfl rfl), TX2, 9, rfl, by decide⟩
set_option maxRecDepth 100000 in
theorem kl_X2_62 : Cond.methodLink RX2 62 Lib.Math.abs.name ∈ rd_gt := (rd_gt_of 618 rfl rfl)
set_option maxRecDepth 100000 in
theorem kl_X2_70 : Cond.methodLink RX2 70 Lib.Math.max.name ∈ rd_gt := (rd_gt_of 619 rfl rfl)
set_option maxRecDepth 100000 in
theorem km_X2_92 : rd_CS RX2 92 yX2_bestFrom cX2_bestFrom 5 (some .int) 3 := ⟨⟨(Or.inl (rd_gt_of 620 rfl rfl)), (rd_gt_of 51 rfl rfl), (rd_gt_of 613 rfl rfl), by decide +kernel, by decide +kernel, by decide⟩, (rd_gt_of 612 rfl rfl)⟩
set_option maxRecDepth 100000 in
theorem km_X2_95 : rd_CS RX2 95 yX2_better cX2_better 3 (some .int) 3 := ⟨⟨(Or.inl (rd_gt_of 621 rfl rfl)), (rd_gt_of 51 rfl rfl), (rd_gt_of 623 rfl rfl), by decide +kernel, by decide +kernel, by decide⟩, (rd_gt_of 622 rfl rfl)⟩
set_option maxRecDepth 100000 in
theorem kl_X2_99 : Cond.methodLink RX2 99 Lib.Math.min.name ∈ rd_gt := (rd_gt_of 624 rfl rfl)
set_option maxRecDepth 100000 in
theorem km_L_113 : rd_CV RL 113 4 yX4_odds cX4_odds 8 (some .int) 3 := ⟨⟨(Or.inl (rd_gt_of 625 rfl rfl)), (rd_gt_of 46 rfl rfl), (rd_gt_of 628 rfl rfl), by decide +kernel, by decide +kernel, by decide⟩, (rd_gt_of 626 rfl rfl), (rd_gt_of 627 rfl rfl), TX4, 14, rfl, by decide⟩
set_option maxRecDepth 100000 in
theorem km_X4_219 : rd_CS RX4 219 yX2_chanceFrom cX2_chanceFrom 7 (some .int) 5 := ⟨⟨(Or.inr ⟨"RopeDance", rd_nw_of 629 rfl⟩), (rd_gt_of 51 rfl rfl), (rd_gt_of 631 rfl rfl), by decide +kernel, by decide +kernel, by decide⟩, (rd_gt_of 630 rfl rfl)⟩
set_option maxRecDepth 100000 in
theorem km_X2_102 : rd_CS RX2 102 yX2_chanceFrom cX2_chanceFrom 7 (some .int) 5 := ⟨⟨(Or.inl (rd_gt_of 632 rfl rfl)), (rd_gt_of 51 rfl rfl), (rd_gt_of 631 rfl rfl), by decide +kernel, by decide +kernel, by decide⟩, (rd_gt_of 630 rfl rfl)⟩
set_option maxRecDepth 100000 in
theorem km_X2_106 : rd_CS RX2 106 yX4_pairAt cX4_pairAt 2 (some .int) 2 := ⟨⟨(Or.inr ⟨"RopeDance", rd_nw_of 633 rfl⟩), (rd_gt_of 46 rfl rfl), (rd_gt_of 283 rfl rfl), by decide +kernel, by decide +kernel, by decide⟩, (rd_gt_of 282 rfl rfl)⟩
set_option maxRecDepth 100000 in
theorem km_L_117 : rd_CV RL 117 4 yX4_evening cX4_evening 8 (some .int) 3 := ⟨⟨(Or.inl (rd_gt_of 634 rfl rfl)), (rd_gt_of 46 rfl rfl), (rd_gt_of 637 rfl rfl), by decide +kernel, by decide +kernel, by decide⟩, (rd_gt_of 635 rfl rfl), (rd_gt_of 636 rfl rfl), TX4, 14, rfl, by decide⟩
set_option maxRecDepth 100000 in
theorem km_X4_226 : rd_CS RX4 226 yX4_drawOf cX4_drawOf 4 (some .int) 2 := ⟨⟨(Or.inl (rd_gt_of 638 rfl rfl)), (rd_gt_of 46 rfl rfl), (rd_gt_of 640 rfl rfl), by decide +kernel, by decide +kernel, by decide⟩, (rd_gt_of 639 rfl rfl)⟩
set_option maxRecDepth 100000 in
theorem kc_X4_279 : Cond.constantLong RX4 279 (7919) ∈ rd_gt := (rd_gt_of 641 rfl rfl)
set_option maxRecDepth 100000 in
theorem kc_X4_281 : Cond.constantLong RX4 281 (6151) ∈ rd_gt := (rd_gt_of 642 rfl rfl)
set_option maxRecDepth 100000 in
theorem kc_X4_283 : Cond.constantLong RX4 283 (65521) ∈ rd_gt := (rd_gt_of 643 rfl rfl)
set_option maxRecDepth 100000 in
theorem km_L_121 : rd_CV RL 121 4 yX4_keep cX4_keep 1 (some .int) 0 := ⟨⟨(Or.inl (rd_gt_of 644 rfl rfl)), (rd_gt_of 46 rfl rfl), (rd_gt_of 647 rfl rfl), by decide +kernel, by decide +kernel, by decide⟩, (rd_gt_of 645 rfl rfl), (rd_gt_of 646 rfl rfl), TX4, 14, rfl, by decide⟩
set_option maxRecDepth 100000 in
theorem km_X4_229 : rd_CV RX4 229 0 yX0_isFull cX0_isFull 1 (some .boolean) 0 := ⟨⟨(Or.inl (rd_gt_of 648 rfl rfl)), (rd_gt_of 49 rfl rfl), (rd_gt_of 651 rfl rfl), by decide +kernel, by decide +kernel, by decide⟩, (rd_gt_of 649 rfl rfl), (rd_gt_of 650 rfl rfl), TX0, 3, rfl, by decide⟩
set_option maxRecDepth 100000 in
theorem km_L_125 : rd_CV RL 125 4 yX4_back cX4_back 1 (some .int) 0 := ⟨⟨(Or.inl (rd_gt_of 652 rfl rfl)), (rd_gt_of 46 rfl rfl), (rd_gt_of 655 rfl rfl), by decide +kernel, by decide +kernel, by decide⟩, (rd_gt_of 653 rfl rfl), (rd_gt_of 654 rfl rfl), TX4, 14, rfl, by decide⟩
set_option maxRecDepth 100000 in
theorem km_L_129 : rd_CV RL 129 4 yX4_count cX4_count 2 (some .int) 1 := ⟨⟨(Or.inl (rd_gt_of 656 rfl rfl)), (rd_gt_of 46 rfl rfl), (rd_gt_of 659 rfl rfl), by decide +kernel, by decide +kernel, by decide⟩, (rd_gt_of 657 rfl rfl), (rd_gt_of 658 rfl rfl), TX4, 14, rfl, by decide⟩
set_option maxRecDepth 100000 in
theorem km_X5_59 : rd_CV RX5 59 5 yX5_begin cX5_begin 2 none 0 := ⟨⟨(Or.inl (rd_gt_of 666 rfl rfl)), (rd_gt_of 57 rfl rfl), (rd_gt_of 669 rfl rfl), by decide +kernel, by decide +kernel, by decide⟩, (rd_gt_of 668 rfl rfl), (rd_gt_of 19 rfl rfl), TX5, 25, rfl, by decide⟩
set_option maxRecDepth 100000 in
theorem kf_X5_7 : rd_FL RX5 7 5 0 := ⟨RX5, TX5, 25, tyX5, rfl, kw_X5, tyX5_ok, nmX5, rfl, by decide, by decide, (rd_gt_of 670 rfl rfl)⟩
set_option maxRecDepth 100000 in
theorem kf_X5_13 : rd_FL RX5 13 5 1 := ⟨RX5, TX5, 25, tyX5, rfl, kw_X5, tyX5_ok, nmX5, rfl, by decide, by decide, (rd_gt_of 671 rfl rfl)⟩
set_option maxRecDepth 100000 in
theorem kf_X5_16 : rd_FL RX5 16 5 2 := ⟨RX5, TX5, 25, tyX5, rfl, kw_X5, tyX5_ok, nmX5, rfl, by decide, by decide, (rd_gt_of 672 rfl rfl)⟩
set_option maxRecDepth 100000 in
theorem kf_X5_55 : rd_FL RX5 55 5 3 := ⟨RX5, TX5, 25, tyX5, rfl, kw_X5, tyX5_ok, nmX5, rfl, by decide, by decide, (rd_gt_of 673 rfl rfl)⟩
set_option maxRecDepth 100000 in
theorem kf_X5_19 : rd_FL RX5 19 5 4 := ⟨RX5, TX5, 25, tyX5, rfl, kw_X5, tyX5_ok, nmX5, rfl, by decide, by decide, (rd_gt_of 674 rfl rfl)⟩
set_option maxRecDepth 100000 in
theorem kf_X5_22 : rd_FL RX5 22 5 5 := ⟨RX5, TX5, 25, tyX5, rfl, kw_X5, tyX5_ok, nmX5, rfl, by decide, by decide, (rd_gt_of 675 rfl rfl)⟩
set_option maxRecDepth 100000 in
theorem kf_X5_68 : rd_FL RX5 68 5 6 := ⟨RX5, TX5, 25, tyX5, rfl, kw_X5, tyX5_ok, nmX5, rfl, by decide, by decide, (rd_gt_of 676 rfl rfl)⟩
set_option maxRecDepth 100000 in
theorem kf_X5_25 : rd_FL RX5 25 5 7 := ⟨RX5, TX5, 25, tyX5, rfl, kw_X5, tyX5_ok, nmX5, rfl, by decide, by decide, (rd_gt_of 677 rfl rfl)⟩
set_option maxRecDepth 100000 in
theorem kf_X5_71 : rd_FL RX5 71 5 8 := ⟨RX5, TX5, 25, tyX5, rfl, kw_X5, tyX5_ok, nmX5, rfl, by decide, by decide, (rd_gt_of 678 rfl rfl)⟩
set_option maxRecDepth 100000 in
theorem kf_X5_28 : rd_FL RX5 28 5 9 := ⟨RX5, TX5, 25, tyX5, rfl, kw_X5, tyX5_ok, nmX5, rfl, by decide, by decide, (rd_gt_of 679 rfl rfl)⟩
set_option maxRecDepth 100000 in
theorem kf_X5_74 : rd_FL RX5 74 5 10 := ⟨RX5, TX5, 25, tyX5, rfl, kw_X5, tyX5_ok, nmX5, rfl, by decide, by decide, (rd_gt_of 680 rfl rfl)⟩
set_option maxRecDepth 100000 in
theorem kf_X5_31 : rd_FL RX5 31 5 11 := ⟨RX5, TX5, 25, tyX5, rfl, kw_X5, tyX5_ok, nmX5, rfl, by decide, by decide, (rd_gt_of 681 rfl rfl)⟩
set_option maxRecDepth 100000 in
theorem kf_X5_81 : rd_FL RX5 81 5 12 := ⟨RX5, TX5, 25, tyX5, rfl, kw_X5, tyX5_ok, nmX5, rfl, by decide, by decide, (rd_gt_of 682 rfl rfl)⟩
set_option maxRecDepth 100000 in
theorem kf_X5_34 : rd_FL RX5 34 5 13 := ⟨RX5, TX5, 25, tyX5, rfl, kw_X5, tyX5_ok, nmX5, rfl, by decide, by decide, (rd_gt_of 683 rfl rfl)⟩
set_option maxRecDepth 100000 in
theorem kf_X5_37 : rd_FL RX5 37 5 14 := ⟨RX5, TX5, 25, tyX5, rfl, kw_X5, tyX5_ok, nmX5, rfl, by decide, by decide, (rd_gt_of 684 rfl rfl)⟩
set_option maxRecDepth 100000 in
theorem kf_X5_40 : rd_FL RX5 40 5 15 := ⟨RX5, TX5, 25, tyX5, rfl, kw_X5, tyX5_ok, nmX5, rfl, by decide, by decide, (rd_gt_of 685 rfl rfl)⟩
set_option maxRecDepth 100000 in
theorem kf_X5_92 : rd_FL RX5 92 5 16 := ⟨RX5, TX5, 25, tyX5, rfl, kw_X5, tyX5_ok, nmX5, rfl, by decide, by decide, (rd_gt_of 686 rfl rfl)⟩
set_option maxRecDepth 100000 in
theorem kf_X5_95 : rd_FL RX5 95 5 17 := ⟨RX5, TX5, 25, tyX5, rfl, kw_X5, tyX5_ok, nmX5, rfl, by decide, by decide, (rd_gt_of 687 rfl rfl)⟩
set_option maxRecDepth 100000 in
theorem kf_X5_127 : rd_FL RX5 127 5 18 := ⟨RX5, TX5, 25, tyX5, rfl, kw_X5, tyX5_ok, nmX5, rfl, by decide, by decide, (rd_gt_of 688 rfl rfl)⟩
set_option maxRecDepth 100000 in
theorem kf_X5_43 : rd_FL RX5 43 5 19 := ⟨RX5, TX5, 25, tyX5, rfl, kw_X5, tyX5_ok, nmX5, rfl, by decide, by decide, (rd_gt_of 689 rfl rfl)⟩
set_option maxRecDepth 100000 in
theorem kf_X5_159 : rd_FL RX5 159 5 20 := ⟨RX5, TX5, 25, tyX5, rfl, kw_X5, tyX5_ok, nmX5, rfl, by decide, by decide, (rd_gt_of 690 rfl rfl)⟩
set_option maxRecDepth 100000 in
theorem kf_X5_171 : rd_FL RX5 171 5 21 := ⟨RX5, TX5, 25, tyX5, rfl, kw_X5, tyX5_ok, nmX5, rfl, by decide, by decide, (rd_gt_of 691 rfl rfl)⟩
set_option maxRecDepth 100000 in
theorem kf_X5_46 : rd_FL RX5 46 5 22 := ⟨RX5, TX5, 25, tyX5, rfl, kw_X5, tyX5_ok, nmX5, rfl, by decide, by decide, (rd_gt_of 692 rfl rfl)⟩
set_option maxRecDepth 100000 in
theorem kf_X5_49 : rd_FL RX5 49 5 23 := ⟨RX5, TX5, 25, tyX5, rfl, kw_X5, tyX5_ok, nmX5, rfl, by decide, by decide, (rd_gt_of 693 rfl rfl)⟩
set_option maxRecDepth 100000 in
theorem kf_X5_52 : rd_FL RX5 52 5 24 := ⟨RX5, TX5, 25, tyX5, rfl, kw_X5, tyX5_ok, nmX5, rfl, by decide, by decide, (rd_gt_of 694 rfl rfl)⟩
set_option maxRecDepth 100000 in
theorem km_L_17 : rd_CV RL 17 5 yX5_write cX5_write 2 (some .int) 1 := ⟨⟨(Or.inl (rd_gt_of 746 rfl rfl)), (rd_gt_of 57 rfl rfl), (rd_gt_of 749 rfl rfl), by decide +kernel, by decide +kernel, by decide⟩, (rd_gt_of 747 rfl rfl), (rd_gt_of 748 rfl rfl), TX5, 25, rfl, by decide⟩
set_option maxRecDepth 100000 in
theorem kc_X5_77 : Cond.constantLong RX5 77 (32) ∈ rd_gt := (rd_gt_of 750 rfl rfl)
set_option maxRecDepth 100000 in
theorem kc_X5_79 : Cond.constantLong RX5 79 (126) ∈ rd_gt := (rd_gt_of 751 rfl rfl)
set_option maxRecDepth 100000 in
theorem km_X5_62 : rd_CS RX5 62 yX5_in cX5_in 6 (some .boolean) 3 := ⟨⟨(Or.inl (rd_gt_of 752 rfl rfl)), (rd_gt_of 57 rfl rfl), (rd_gt_of 754 rfl rfl), by decide +kernel, by decide +kernel, by decide⟩, (rd_gt_of 753 rfl rfl)⟩
set_option maxRecDepth 100000 in
theorem km_L_22 : rd_CV RL 22 5 yX5_wipe cX5_wipe 2 (some .int) 0 := ⟨⟨(Or.inl (rd_gt_of 755 rfl rfl)), (rd_gt_of 57 rfl rfl), (rd_gt_of 758 rfl rfl), by decide +kernel, by decide +kernel, by decide⟩, (rd_gt_of 756 rfl rfl), (rd_gt_of 757 rfl rfl), TX5, 25, rfl, by decide⟩
set_option maxRecDepth 100000 in
theorem km_L_26 : rd_CV RL 26 5 yX5_fault cX5_fault 2 (some .int) 0 := ⟨⟨(Or.inl (rd_gt_of 759 rfl rfl)), (rd_gt_of 57 rfl rfl), (rd_gt_of 762 rfl rfl), by decide +kernel, by decide +kernel, by decide⟩, (rd_gt_of 760 rfl rfl), (rd_gt_of 761 rfl rfl), TX5, 25, rfl, by decide⟩
set_option maxRecDepth 100000 in
theorem km_X5_98 : rd_CV RX5 98 5 yX5_readItem cX5_readItem 5 (some .int) 1 := ⟨⟨(Or.inl (rd_gt_of 763 rfl rfl)), (rd_gt_of 57 rfl rfl), (rd_gt_of 766 rfl rfl), by decide +kernel, by decide +kernel, by decide⟩, (rd_gt_of 765 rfl rfl), (rd_gt_of 20 rfl rfl), TX5, 25, rfl, by decide⟩
set_option maxRecDepth 100000 in
theorem km_X5_84 : rd_CV RX5 84 5 yX5_letter cX5_letter 2 (some .int) 1 := ⟨⟨(Or.inl (rd_gt_of 767 rfl rfl)), (rd_gt_of 57 rfl rfl), (rd_gt_of 770 rfl rfl), by decide +kernel, by decide +kernel, by decide⟩, (rd_gt_of 769 rfl rfl), (rd_gt_of 21 rfl rfl), TX5, 25, rfl, by decide⟩
set_option maxRecDepth 100000 in
theorem km_X5_88 : rd_CV RX5 88 5 yX5_figureAt cX5_figureAt 4 (some .int) 2 := ⟨⟨(Or.inl (rd_gt_of 771 rfl rfl)), (rd_gt_of 57 rfl rfl), (rd_gt_of 774 rfl rfl), by decide +kernel, by decide +kernel, by decide⟩, (rd_gt_of 773 rfl rfl), (rd_gt_of 22 rfl rfl), TX5, 25, rfl, by decide⟩
set_option maxRecDepth 100000 in
theorem km_L_30 : rd_CV RL 30 5 yX5_lay cX5_lay 3 (some .int) 0 := ⟨⟨(Or.inl (rd_gt_of 775 rfl rfl)), (rd_gt_of 57 rfl rfl), (rd_gt_of 778 rfl rfl), by decide +kernel, by decide +kernel, by decide⟩, (rd_gt_of 776 rfl rfl), (rd_gt_of 777 rfl rfl), TX5, 25, rfl, by decide⟩
set_option maxRecDepth 100000 in
theorem km_X5_101 : rd_CV RX5 101 5 yX5_fault cX5_fault 2 (some .int) 0 := ⟨⟨(Or.inl (rd_gt_of 779 rfl rfl)), (rd_gt_of 57 rfl rfl), (rd_gt_of 762 rfl rfl), by decide +kernel, by decide +kernel, by decide⟩, (rd_gt_of 760 rfl rfl), (rd_gt_of 761 rfl rfl), TX5, 25, rfl, by decide⟩
set_option maxRecDepth 100000 in
theorem km_L_35 : rd_CV RL 35 5 yX5_dancer cX5_dancer 3 (some .int) 2 := ⟨⟨(Or.inl (rd_gt_of 780 rfl rfl)), (rd_gt_of 57 rfl rfl), (rd_gt_of 783 rfl rfl), by decide +kernel, by decide +kernel, by decide⟩, (rd_gt_of 781 rfl rfl), (rd_gt_of 782 rfl rfl), TX5, 25, rfl, by decide⟩
set_option maxRecDepth 100000 in
theorem km_X5_105 : rd_CS RX5 105 yX5_isOne cX5_isOne 1 (some .boolean) 1 := ⟨⟨(Or.inl (rd_gt_of 784 rfl rfl)), (rd_gt_of 57 rfl rfl), (rd_gt_of 786 rfl rfl), by decide +kernel, by decide +kernel, by decide⟩, (rd_gt_of 785 rfl rfl)⟩
set_option maxRecDepth 100000 in
theorem kc_X5_66 : Cond.constantLong RX5 66 (3) ∈ rd_gt := (rd_gt_of 787 rfl rfl)
set_option maxRecDepth 100000 in
theorem kc_X5_109 : Cond.constantLong RX5 109 (2) ∈ rd_gt := (rd_gt_of 788 rfl rfl)
set_option maxRecDepth 100000 in
theorem km_X5_111 : rd_CV RX5 111 5 yX5_placeOf cX5_placeOf 3 (some .int) 1 := ⟨⟨(Or.inl (rd_gt_of 789 rfl rfl)), (rd_gt_of 57 rfl rfl), (rd_gt_of 792 rfl rfl), by decide +kernel, by decide +kernel, by decide⟩, (rd_gt_of 791 rfl rfl), (rd_gt_of 23 rfl rfl), TX5, 25, rfl, by decide⟩
set_option maxRecDepth 100000 in
theorem km_L_39 : rd_CV RL 39 5 yX5_place cX5_place 3 (some .int) 2 := ⟨⟨(Or.inl (rd_gt_of 793 rfl rfl)), (rd_gt_of 57 rfl rfl), (rd_gt_of 796 rfl rfl), by decide +kernel, by decide +kernel, by decide⟩, (rd_gt_of 794 rfl rfl), (rd_gt_of 795 rfl rfl), TX5, 25, rfl, by decide⟩
set_option maxRecDepth 100000 in
theorem km_X5_114 : rd_CS RX5 114 yX5_isPart cX5_isPart 1 (some .boolean) 1 := ⟨⟨(Or.inl (rd_gt_of 797 rfl rfl)), (rd_gt_of 57 rfl rfl), (rd_gt_of 799 rfl rfl), by decide +kernel, by decide +kernel, by decide⟩, (rd_gt_of 798 rfl rfl)⟩
set_option maxRecDepth 100000 in
theorem km_L_43 : rd_CV RL 43 5 yX5_wound cX5_wound 2 (some .int) 1 := ⟨⟨(Or.inl (rd_gt_of 800 rfl rfl)), (rd_gt_of 57 rfl rfl), (rd_gt_of 803 rfl rfl), by decide +kernel, by decide +kernel, by decide⟩, (rd_gt_of 801 rfl rfl), (rd_gt_of 802 rfl rfl), TX5, 25, rfl, by decide⟩
set_option maxRecDepth 100000 in
theorem kc_X5_117 : Cond.constant RX5 117 (-100000) ∈ rd_gt := (rd_gt_of 804 rfl rfl)
set_option maxRecDepth 100000 in
theorem km_L_47 : rd_CV RL 47 5 yX5_row cX5_row 2 (some .int) 1 := ⟨⟨(Or.inl (rd_gt_of 805 rfl rfl)), (rd_gt_of 57 rfl rfl), (rd_gt_of 808 rfl rfl), by decide +kernel, by decide +kernel, by decide⟩, (rd_gt_of 806 rfl rfl), (rd_gt_of 807 rfl rfl), TX5, 25, rfl, by decide⟩
set_option maxRecDepth 100000 in
theorem kc_X5_118 : Cond.constantLong RX5 118 (11) ∈ rd_gt := (rd_gt_of 809 rfl rfl)
set_option maxRecDepth 100000 in
theorem km_L_51 : rd_CV RL 51 5 yX5_dance cX5_dance 3 (some .int) 1 := ⟨⟨(Or.inl (rd_gt_of 810 rfl rfl)), (rd_gt_of 57 rfl rfl), (rd_gt_of 813 rfl rfl), by decide +kernel, by decide +kernel, by decide⟩, (rd_gt_of 811 rfl rfl), (rd_gt_of 812 rfl rfl), TX5, 25, rfl, by decide⟩
set_option maxRecDepth 100000 in
theorem km_X5_141 : rd_CV RX5 141 5 yX5_putAside cX5_putAside 2 none 0 := ⟨⟨(Or.inl (rd_gt_of 814 rfl rfl)), (rd_gt_of 57 rfl rfl), (rd_gt_of 817 rfl rfl), by decide +kernel, by decide +kernel, by decide⟩, (rd_gt_of 816 rfl rfl), (rd_gt_of 24 rfl rfl), TX5, 25, rfl, by decide⟩
set_option maxRecDepth 100000 in
theorem km_X5_144 : rd_CV RX5 144 5 yX5_dances cX5_dances 3 (some .boolean) 1 := ⟨⟨(Or.inl (rd_gt_of 818 rfl rfl)), (rd_gt_of 57 rfl rfl), (rd_gt_of 821 rfl rfl), by decide +kernel, by decide +kernel, by decide⟩, (rd_gt_of 820 rfl rfl), (rd_gt_of 25 rfl rfl), TX5, 25, rfl, by decide⟩
set_option maxRecDepth 100000 in
theorem km_X5_134 : rd_CV RX5 134 5 yX5_turns cX5_turns 5 (some .boolean) 0 := ⟨⟨(Or.inl (rd_gt_of 822 rfl rfl)), (rd_gt_of 57 rfl rfl), (rd_gt_of 825 rfl rfl), by decide +kernel, by decide +kernel, by decide⟩, (rd_gt_of 824 rfl rfl), (rd_gt_of 26 rfl rfl), TX5, 25, rfl, by decide⟩
set_option maxRecDepth 100000 in
theorem km_X5_123 : rd_CS RX5 123 yX5_isTight cX5_isTight 2 (some .boolean) 2 := ⟨⟨(Or.inl (rd_gt_of 826 rfl rfl)), (rd_gt_of 57 rfl rfl), (rd_gt_of 828 rfl rfl), by decide +kernel, by decide +kernel, by decide⟩, (rd_gt_of 827 rfl rfl)⟩
set_option maxRecDepth 100000 in
theorem km_X5_138 : rd_CV RX5 138 5 yX5_winds cX5_winds 4 (some .boolean) 1 := ⟨⟨(Or.inl (rd_gt_of 829 rfl rfl)), (rd_gt_of 57 rfl rfl), (rd_gt_of 832 rfl rfl), by decide +kernel, by decide +kernel, by decide⟩, (rd_gt_of 831 rfl rfl), (rd_gt_of 27 rfl rfl), TX5, 25, rfl, by decide⟩
set_option maxRecDepth 100000 in
theorem km_X5_120 : rd_CV RX5 120 5 yX5_windsBy cX5_windsBy 3 (some .int) 1 := ⟨⟨(Or.inl (rd_gt_of 833 rfl rfl)), (rd_gt_of 57 rfl rfl), (rd_gt_of 836 rfl rfl), by decide +kernel, by decide +kernel, by decide⟩, (rd_gt_of 835 rfl rfl), (rd_gt_of 28 rfl rfl), TX5, 25, rfl, by decide⟩
set_option maxRecDepth 100000 in
theorem km_X5_130 : rd_CV RX5 130 5 yX5_changePlaces cX5_changePlaces 4 none 2 := ⟨⟨(Or.inl (rd_gt_of 837 rfl rfl)), (rd_gt_of 57 rfl rfl), (rd_gt_of 840 rfl rfl), by decide +kernel, by decide +kernel, by decide⟩, (rd_gt_of 839 rfl rfl), (rd_gt_of 29 rfl rfl), TX5, 25, rfl, by decide⟩
set_option maxRecDepth 100000 in
theorem km_X5_147 : rd_CV RX5 147 5 yX5_takeBack cX5_takeBack 2 none 0 := ⟨⟨(Or.inl (rd_gt_of 841 rfl rfl)), (rd_gt_of 57 rfl rfl), (rd_gt_of 844 rfl rfl), by decide +kernel, by decide +kernel, by decide⟩, (rd_gt_of 843 rfl rfl), (rd_gt_of 30 rfl rfl), TX5, 25, rfl, by decide⟩
set_option maxRecDepth 100000 in
theorem km_X5_150 : rd_CV RX5 150 5 yX5_note cX5_note 2 none 0 := ⟨⟨(Or.inl (rd_gt_of 845 rfl rfl)), (rd_gt_of 57 rfl rfl), (rd_gt_of 848 rfl rfl), by decide +kernel, by decide +kernel, by decide⟩, (rd_gt_of 847 rfl rfl), (rd_gt_of 31 rfl rfl), TX5, 25, rfl, by decide⟩
set_option maxRecDepth 100000 in
theorem km_L_55 : rd_CV RL 55 5 yX5_put cX5_put 3 (some .int) 2 := ⟨⟨(Or.inl (rd_gt_of 849 rfl rfl)), (rd_gt_of 57 rfl rfl), (rd_gt_of 852 rfl rfl), by decide +kernel, by decide +kernel, by decide⟩, (rd_gt_of 850 rfl rfl), (rd_gt_of 851 rfl rfl), TX5, 25, rfl, by decide⟩
set_option maxRecDepth 100000 in
theorem km_X5_153 : rd_CV RX5 153 5 yX5_putThem cX5_putThem 4 none 2 := ⟨⟨(Or.inl (rd_gt_of 853 rfl rfl)), (rd_gt_of 57 rfl rfl), (rd_gt_of 856 rfl rfl), by decide +kernel, by decide +kernel, by decide⟩, (rd_gt_of 855 rfl rfl), (rd_gt_of 32 rfl rfl), TX5, 25, rfl, by decide⟩
set_option maxRecDepth 100000 in
theorem km_L_59 : rd_CV RL 59 5 yX5_undo cX5_undo 2 (some .int) 0 := ⟨⟨(Or.inl (rd_gt_of 857 rfl rfl)), (rd_gt_of 57 rfl rfl), (rd_gt_of 860 rfl rfl), by decide +kernel, by decide +kernel, by decide⟩, (rd_gt_of 858 rfl rfl), (rd_gt_of 859 rfl rfl), TX5, 25, rfl, by decide⟩
set_option maxRecDepth 100000 in
theorem km_L_63 : rd_CV RL 63 5 yX5_free cX5_free 2 (some .int) 1 := ⟨⟨(Or.inl (rd_gt_of 861 rfl rfl)), (rd_gt_of 57 rfl rfl), (rd_gt_of 864 rfl rfl), by decide +kernel, by decide +kernel, by decide⟩, (rd_gt_of 862 rfl rfl), (rd_gt_of 863 rfl rfl), TX5, 25, rfl, by decide⟩
set_option maxRecDepth 100000 in
theorem km_X5_178 : rd_CS RX5 178 yX5_isPlaceOfRow cX5_isPlaceOfRow 1 (some .boolean) 1 := ⟨⟨(Or.inl (rd_gt_of 865 rfl rfl)), (rd_gt_of 57 rfl rfl), (rd_gt_of 867 rfl rfl), by decide +kernel, by decide +kernel, by decide⟩, (rd_gt_of 866 rfl rfl)⟩
set_option maxRecDepth 100000 in
theorem kc_X5_174 : Cond.constantLong RX5 174 (-1) ∈ rd_gt := (rd_gt_of 868 rfl rfl)
set_option maxRecDepth 100000 in
theorem kc_X5_176 : Cond.constantLong RX5 176 (6) ∈ rd_gt := (rd_gt_of 869 rfl rfl)
set_option maxRecDepth 100000 in
theorem km_X5_181 : rd_CV RX5 181 5 yX5_search cX5_search 7 none 4 := ⟨⟨(Or.inl (rd_gt_of 870 rfl rfl)), (rd_gt_of 57 rfl rfl), (rd_gt_of 873 rfl rfl), by decide +kernel, by decide +kernel, by decide⟩, (rd_gt_of 872 rfl rfl), (rd_gt_of 33 rfl rfl), TX5, 25, rfl, by decide⟩
set_option maxRecDepth 100000 in
theorem km_X5_156 : rd_CS RX5 156 yX5_rowsOf cX5_rowsOf 4 (some .int) 2 := ⟨⟨(Or.inl (rd_gt_of 874 rfl rfl)), (rd_gt_of 57 rfl rfl), (rd_gt_of 876 rfl rfl), by decide +kernel, by decide +kernel, by decide⟩, (rd_gt_of 875 rfl rfl)⟩
set_option maxRecDepth 100000 in
theorem km_X5_162 : rd_CV RX5 162 5 yX5_dancesRow cX5_dancesRow 5 (some .boolean) 2 := ⟨⟨(Or.inl (rd_gt_of 877 rfl rfl)), (rd_gt_of 57 rfl rfl), (rd_gt_of 880 rfl rfl), by decide +kernel, by decide +kernel, by decide⟩, (rd_gt_of 879 rfl rfl), (rd_gt_of 34 rfl rfl), TX5, 25, rfl, by decide⟩
set_option maxRecDepth 100000 in
theorem km_X5_165 : rd_CV RX5 165 5 yX5_isWound cX5_isWound 3 (some .boolean) 2 := ⟨⟨(Or.inl (rd_gt_of 881 rfl rfl)), (rd_gt_of 57 rfl rfl), (rd_gt_of 884 rfl rfl), by decide +kernel, by decide +kernel, by decide⟩, (rd_gt_of 883 rfl rfl), (rd_gt_of 35 rfl rfl), TX5, 25, rfl, by decide⟩
set_option maxRecDepth 100000 in
theorem km_X5_168 : rd_CV RX5 168 5 yX5_areBeside cX5_areBeside 4 (some .boolean) 2 := ⟨⟨(Or.inl (rd_gt_of 885 rfl rfl)), (rd_gt_of 57 rfl rfl), (rd_gt_of 888 rfl rfl), by decide +kernel, by decide +kernel, by decide⟩, (rd_gt_of 887 rfl rfl), (rd_gt_of 36 rfl rfl), TX5, 25, rfl, by decide⟩
set_option maxRecDepth 100000 in
theorem km_X5_185 : rd_CV RX5 185 5 yX5_tells cX5_tells 2 (some .int) 1 := ⟨⟨(Or.inl (rd_gt_of 889 rfl rfl)), (rd_gt_of 57 rfl rfl), (rd_gt_of 892 rfl rfl), by decide +kernel, by decide +kernel, by decide⟩, (rd_gt_of 891 rfl rfl), (rd_gt_of 37 rfl rfl), TX5, 25, rfl, by decide⟩
set_option maxRecDepth 100000 in
theorem km_L_68 : rd_CV RL 68 5 yX5_reach cX5_reach 4 (some .int) 3 := ⟨⟨(Or.inl (rd_gt_of 893 rfl rfl)), (rd_gt_of 57 rfl rfl), (rd_gt_of 896 rfl rfl), by decide +kernel, by decide +kernel, by decide⟩, (rd_gt_of 894 rfl rfl), (rd_gt_of 895 rfl rfl), TX5, 25, rfl, by decide⟩
set_option maxRecDepth 100000 in
theorem km_X5_195 : rd_CS RX5 195 yX5_isFraction cX5_isFraction 2 (some .boolean) 2 := ⟨⟨(Or.inl (rd_gt_of 897 rfl rfl)), (rd_gt_of 57 rfl rfl), (rd_gt_of 899 rfl rfl), by decide +kernel, by decide +kernel, by decide⟩, (rd_gt_of 898 rfl rfl)⟩
set_option maxRecDepth 100000 in
theorem kc_X5_188 : Cond.constantLong RX5 188 (-99) ∈ rd_gt := (rd_gt_of 900 rfl rfl)
set_option maxRecDepth 100000 in
theorem kc_X5_190 : Cond.constantLong RX5 190 (99) ∈ rd_gt := (rd_gt_of 901 rfl rfl)
set_option maxRecDepth 100000 in
theorem km_X5_192 : rd_CS RX5 192 yX5_common cX5_common 5 (some .int) 2 := ⟨⟨(Or.inl (rd_gt_of 902 rfl rfl)), (rd_gt_of 57 rfl rfl), (rd_gt_of 904 rfl rfl), by decide +kernel, by decide +kernel, by decide⟩, (rd_gt_of 903 rfl rfl)⟩
set_option maxRecDepth 100000 in
theorem km_L_72 : rd_CV RL 72 5 yX5_meet cX5_meet 4 (some .int) 3 := ⟨⟨(Or.inl (rd_gt_of 905 rfl rfl)), (rd_gt_of 57 rfl rfl), (rd_gt_of 908 rfl rfl), by decide +kernel, by decide +kernel, by decide⟩, (rd_gt_of 906 rfl rfl), (rd_gt_of 907 rfl rfl), TX5, 25, rfl, by decide⟩
set_option maxRecDepth 100000 in
theorem km_L_76 : rd_CV RL 76 5 yX5_ways cX5_ways 4 (some .int) 1 := ⟨⟨(Or.inl (rd_gt_of 909 rfl rfl)), (rd_gt_of 57 rfl rfl), (rd_gt_of 912 rfl rfl), by decide +kernel, by decide +kernel, by decide⟩, (rd_gt_of 910 rfl rfl), (rd_gt_of 911 rfl rfl), TX5, 25, rfl, by decide⟩
set_option maxRecDepth 100000 in
theorem kc_X5_198 : Cond.constantLong RX5 198 (7) ∈ rd_gt := (rd_gt_of 913 rfl rfl)
set_option maxRecDepth 100000 in
theorem km_L_80 : rd_CV RL 80 5 yX5_plain cX5_plain 4 (some .int) 0 := ⟨⟨(Or.inl (rd_gt_of 914 rfl rfl)), (rd_gt_of 57 rfl rfl), (rd_gt_of 917 rfl rfl), by decide +kernel, by decide +kernel, by decide⟩, (rd_gt_of 915 rfl rfl), (rd_gt_of 916 rfl rfl), TX5, 25, rfl, by decide⟩
set_option maxRecDepth 100000 in
theorem km_L_84 : rd_CV RL 84 5 yX5_comes cX5_comes 4 (some .int) 1 := ⟨⟨(Or.inl (rd_gt_of 918 rfl rfl)), (rd_gt_of 57 rfl rfl), (rd_gt_of 921 rfl rfl), by decide +kernel, by decide +kernel, by decide⟩, (rd_gt_of 919 rfl rfl), (rd_gt_of 920 rfl rfl), TX5, 25, rfl, by decide⟩
set_option maxRecDepth 100000 in
theorem km_X5_200 : rd_CV RX5 200 5 yX5_dancesOn cX5_dancesOn 4 (some .int) 1 := ⟨⟨(Or.inl (rd_gt_of 922 rfl rfl)), (rd_gt_of 57 rfl rfl), (rd_gt_of 925 rfl rfl), by decide +kernel, by decide +kernel, by decide⟩, (rd_gt_of 924 rfl rfl), (rd_gt_of 38 rfl rfl), TX5, 25, rfl, by decide⟩
set_option maxRecDepth 100000 in
theorem km_L_88 : rd_CV RL 88 5 yX5_behind cX5_behind 4 (some .int) 2 := ⟨⟨(Or.inl (rd_gt_of 926 rfl rfl)), (rd_gt_of 57 rfl rfl), (rd_gt_of 929 rfl rfl), by decide +kernel, by decide +kernel, by decide⟩, (rd_gt_of 927 rfl rfl), (rd_gt_of 928 rfl rfl), TX5, 25, rfl, by decide⟩
set_option maxRecDepth 100000 in
theorem kc_X5_203 : Cond.constantLong RX5 203 (12) ∈ rd_gt := (rd_gt_of 930 rfl rfl)
set_option maxRecDepth 100000 in
theorem km_X5_205 : rd_CV RX5 205 5 yX5_dancesFirst cX5_dancesFirst 2 (some .boolean) 1 := ⟨⟨(Or.inl (rd_gt_of 931 rfl rfl)), (rd_gt_of 57 rfl rfl), (rd_gt_of 934 rfl rfl), by decide +kernel, by decide +kernel, by decide⟩, (rd_gt_of 933 rfl rfl), (rd_gt_of 39 rfl rfl), TX5, 25, rfl, by decide⟩
set_option maxRecDepth 100000 in
theorem kc_X5_208 : Cond.constant RX5 208 (-100001) ∈ rd_gt := (rd_gt_of 935 rfl rfl)
set_option maxRecDepth 100000 in
theorem km_L_92 : rd_CV RL 92 5 yX5_see cX5_see 4 (some .int) 3 := ⟨⟨(Or.inl (rd_gt_of 936 rfl rfl)), (rd_gt_of 57 rfl rfl), (rd_gt_of 939 rfl rfl), by decide +kernel, by decide +kernel, by decide⟩, (rd_gt_of 937 rfl rfl), (rd_gt_of 938 rfl rfl), TX5, 25, rfl, by decide⟩
set_option maxRecDepth 100000 in
theorem km_L_96 : rd_CV RL 96 5 yX5_forget cX5_forget 2 (some .int) 0 := ⟨⟨(Or.inl (rd_gt_of 940 rfl rfl)), (rd_gt_of 57 rfl rfl), (rd_gt_of 943 rfl rfl), by decide +kernel, by decide +kernel, by decide⟩, (rd_gt_of 941 rfl rfl), (rd_gt_of 942 rfl rfl), TX5, 25, rfl, by decide⟩
set_option maxRecDepth 100000 in
theorem km_L_100 : rd_CV RL 100 5 yX5_kinds cX5_kinds 2 (some .int) 1 := ⟨⟨(Or.inl (rd_gt_of 944 rfl rfl)), (rd_gt_of 57 rfl rfl), (rd_gt_of 947 rfl rfl), by decide +kernel, by decide +kernel, by decide⟩, (rd_gt_of 945 rfl rfl), (rd_gt_of 946 rfl rfl), TX5, 25, rfl, by decide⟩
set_option maxRecDepth 100000 in
theorem km_X5_212 : rd_CV RX5 212 5 yX5_kindSet cX5_kindSet 5 (some .int) 1 := ⟨⟨(Or.inl (rd_gt_of 948 rfl rfl)), (rd_gt_of 57 rfl rfl), (rd_gt_of 951 rfl rfl), by decide +kernel, by decide +kernel, by decide⟩, (rd_gt_of 950 rfl rfl), (rd_gt_of 40 rfl rfl), TX5, 25, rfl, by decide⟩
set_option maxRecDepth 100000 in
theorem km_X5_209 : rd_CV RX5 209 5 yX5_isAsSeen cX5_isAsSeen 3 (some .boolean) 0 := ⟨⟨(Or.inl (rd_gt_of 952 rfl rfl)), (rd_gt_of 57 rfl rfl), (rd_gt_of 955 rfl rfl), by decide +kernel, by decide +kernel, by decide⟩, (rd_gt_of 954 rfl rfl), (rd_gt_of 41 rfl rfl), TX5, 25, rfl, by decide⟩
set_option maxRecDepth 100000 in
theorem km_L_104 : rd_CV RL 104 5 yX5_look cX5_look 8 (some .int) 2 := ⟨⟨(Or.inl (rd_gt_of 956 rfl rfl)), (rd_gt_of 57 rfl rfl), (rd_gt_of 959 rfl rfl), by decide +kernel, by decide +kernel, by decide⟩, (rd_gt_of 957 rfl rfl), (rd_gt_of 958 rfl rfl), TX5, 25, rfl, by decide⟩
set_option maxRecDepth 100000 in
theorem km_X5_215 : rd_CV RX5 215 5 yX5_partBy cX5_partBy 9 (some .int) 3 := ⟨⟨(Or.inl (rd_gt_of 960 rfl rfl)), (rd_gt_of 57 rfl rfl), (rd_gt_of 963 rfl rfl), by decide +kernel, by decide +kernel, by decide⟩, (rd_gt_of 962 rfl rfl), (rd_gt_of 42 rfl rfl), TX5, 25, rfl, by decide⟩
set_option maxRecDepth 100000 in
theorem km_L_108 : rd_CV RL 108 5 yX5_danced cX5_danced 6 (some .int) 1 := ⟨⟨(Or.inl (rd_gt_of 964 rfl rfl)), (rd_gt_of 57 rfl rfl), (rd_gt_of 967 rfl rfl), by decide +kernel, by decide +kernel, by decide⟩, (rd_gt_of 965 rfl rfl), (rd_gt_of 966 rfl rfl), TX5, 25, rfl, by decide⟩
set_option maxRecDepth 100000 in
theorem km_L_112 : rd_CV RL 112 5 yX5_duel cX5_duel 8 (some .int) 1 := ⟨⟨(Or.inl (rd_gt_of 968 rfl rfl)), (rd_gt_of 57 rfl rfl), (rd_gt_of 971 rfl rfl), by decide +kernel, by decide +kernel, by decide⟩, (rd_gt_of 969 rfl rfl), (rd_gt_of 970 rfl rfl), TX5, 25, rfl, by decide⟩
set_option maxRecDepth 100000 in
theorem kc_X5_219 : Cond.constantLong RX5 219 (5) ∈ rd_gt := (rd_gt_of 972 rfl rfl)
set_option maxRecDepth 100000 in
theorem km_X5_221 : rd_CV RX5 221 5 yX5_greater cX5_greater 2 (some .int) 0 := ⟨⟨(Or.inl (rd_gt_of 973 rfl rfl)), (rd_gt_of 57 rfl rfl), (rd_gt_of 976 rfl rfl), by decide +kernel, by decide +kernel, by decide⟩, (rd_gt_of 975 rfl rfl), (rd_gt_of 43 rfl rfl), TX5, 25, rfl, by decide⟩
set_option maxRecDepth 100000 in
theorem km_X5_224 : rd_CV RX5 224 5 yX5_better cX5_better 4 (some .int) 3 := ⟨⟨(Or.inl (rd_gt_of 977 rfl rfl)), (rd_gt_of 57 rfl rfl), (rd_gt_of 980 rfl rfl), by decide +kernel, by decide +kernel, by decide⟩, (rd_gt_of 979 rfl rfl), (rd_gt_of 44 rfl rfl), TX5, 25, rfl, by decide⟩
set_option maxRecDepth 100000 in
theorem km_L_116 : rd_CV RL 116 5 yX5_odds cX5_odds 10 (some .int) 3 := ⟨⟨(Or.inl (rd_gt_of 981 rfl rfl)), (rd_gt_of 57 rfl rfl), (rd_gt_of 984 rfl rfl), by decide +kernel, by decide +kernel, by decide⟩, (rd_gt_of 982 rfl rfl), (rd_gt_of 983 rfl rfl), TX5, 25, rfl, by decide⟩
set_option maxRecDepth 100000 in
theorem kc_X5_228 : Cond.constantLong RX5 228 (10) ∈ rd_gt := (rd_gt_of 985 rfl rfl)
set_option maxRecDepth 100000 in
theorem km_L_120 : rd_CV RL 120 5 yX5_evening cX5_evening 10 (some .int) 3 := ⟨⟨(Or.inl (rd_gt_of 986 rfl rfl)), (rd_gt_of 57 rfl rfl), (rd_gt_of 989 rfl rfl), by decide +kernel, by decide +kernel, by decide⟩, (rd_gt_of 987 rfl rfl), (rd_gt_of 988 rfl rfl), TX5, 25, rfl, by decide⟩
set_option maxRecDepth 100000 in
theorem kc_X5_230 : Cond.constantLong RX5 230 (9999) ∈ rd_gt := (rd_gt_of 990 rfl rfl)
set_option maxRecDepth 100000 in
theorem kc_X5_232 : Cond.constantLong RX5 232 (60) ∈ rd_gt := (rd_gt_of 991 rfl rfl)
set_option maxRecDepth 100000 in
theorem kc_X5_234 : Cond.constantLong RX5 234 (7919) ∈ rd_gt := (rd_gt_of 992 rfl rfl)
set_option maxRecDepth 100000 in
theorem kc_X5_236 : Cond.constantLong RX5 236 (6151) ∈ rd_gt := (rd_gt_of 993 rfl rfl)
set_option maxRecDepth 100000 in
theorem kc_X5_238 : Cond.constantLong RX5 238 (65521) ∈ rd_gt := (rd_gt_of 994 rfl rfl)
set_option maxRecDepth 100000 in
theorem km_L_124 : rd_CV RL 124 5 yX5_keep cX5_keep 2 (some .int) 0 := ⟨⟨(Or.inl (rd_gt_of 995 rfl rfl)), (rd_gt_of 57 rfl rfl), (rd_gt_of 998 rfl rfl), by decide +kernel, by decide +kernel, by decide⟩, (rd_gt_of 996 rfl rfl), (rd_gt_of 997 rfl rfl), TX5, 25, rfl, by decide⟩
set_option maxRecDepth 100000 in
theorem km_L_128 : rd_CV RL 128 5 yX5_back cX5_back 2 (some .int) 0 := ⟨⟨(Or.inl (rd_gt_of 999 rfl rfl)), (rd_gt_of 57 rfl rfl), (rd_gt_of 1002 rfl rfl), by decide +kernel, by decide +kernel, by decide⟩, (rd_gt_of 1000 rfl rfl), (rd_gt_of 1001 rfl rfl), TX5, 25, rfl, by decide⟩
set_option maxRecDepth 100000 in
theorem km_L_132 : rd_CV RL 132 5 yX5_count cX5_count 2 (some .int) 1 := ⟨⟨(Or.inl (rd_gt_of 1003 rfl rfl)), (rd_gt_of 57 rfl rfl), (rd_gt_of 1006 rfl rfl), by decide +kernel, by decide +kernel, by decide⟩, (rd_gt_of 1004 rfl rfl), (rd_gt_of 1005 rfl rfl), TX5, 25, rfl, by decide⟩
set_option maxRecDepth 100000 in
theorem kh_max : Cond.static Lib.Math.max.name ∈ rd_gt ∧ Cond.initialized "java/lang/Math" ∈ rd_gt ∧ Cond.code Lib.Math.max.name Lib.Math.max.code 2 (some .int) ∈ rd_gt := ⟨(rd_gt_of 135 rfl rfl), (rd_gt_of 50 rfl rfl), (rd_gt_of 136 rfl rfl)⟩
set_option maxRecDepth 100000 in
theorem kh_min : Cond.static Lib.Math.min.name ∈ rd_gt ∧ Cond.initialized "java/lang/Math" ∈ rd_gt ∧ Cond.code Lib.Math.min.name Lib.Math.min.code 2 (some .int) ∈ rd_gt := ⟨(rd_gt_of 434 rfl rfl), (rd_gt_of 50 rfl rfl), (rd_gt_of 435 rfl rfl)⟩
set_option maxRecDepth 100000 in
theorem kh_abs : Cond.static Lib.Math.abs.name ∈ rd_gt ∧ Cond.initialized "java/lang/Math" ∈ rd_gt ∧ Cond.code Lib.Math.abs.name Lib.Math.abs.code 1 (some .int) ∈ rd_gt := ⟨(rd_gt_of 423 rfl rfl), (rd_gt_of 50 rfl rfl), (rd_gt_of 424 rfl rfl)⟩
