theorem lb_0 : dl_ck (cL_law.data.toList.drop 0) [187, 0, 7, 89, 183, 0, 9, 76, 187, 0, 10, 89, 183, 0, 12, 77, 3, 62, 29, 42, 190, 16, 6, 100, 163, 6, 87, 42, 29, 46, 16, 63] = true := by decide +kernel
theorem lb_1 : dl_ck (cL_law.data.toList.drop 32) [126, 170, 0, 0, 0, 0, 6, 72, 0, 0, 0, 0, 0, 0, 0, 48, 0, 0, 0, 211, 0, 0, 0, 244, 0, 0, 1, 31, 0, 0, 1, 64] = true := by decide +kernel
theorem lb_2 : dl_ck (cL_law.data.toList.drop 64) [0, 0, 1, 87, 0, 0, 1, 150, 0, 0, 1, 173, 0, 0, 1, 206, 0, 0, 1, 249, 0, 0, 2, 16, 0, 0, 2, 39, 0, 0, 2, 72] = true := by decide +kernel
theorem lb_3 : dl_ck (cL_law.data.toList.drop 96) [0, 0, 2, 105, 0, 0, 2, 138, 0, 0, 2, 171, 0, 0, 2, 204, 0, 0, 2, 227, 0, 0, 3, 24, 0, 0, 3, 57, 0, 0, 3, 80] = true := by decide +kernel
theorem lb_4 : dl_ck (cL_law.data.toList.drop 128) [0, 0, 3, 103, 0, 0, 3, 136, 0, 0, 3, 159, 0, 0, 3, 182, 0, 0, 3, 205, 0, 0, 3, 228, 0, 0, 4, 5, 0, 0, 4, 38] = true := by decide +kernel
theorem lb_5 : dl_ck (cL_law.data.toList.drop 160) [0, 0, 4, 61, 0, 0, 4, 84, 0, 0, 4, 107, 0, 0, 4, 130, 0, 0, 4, 153, 0, 0, 4, 176, 0, 0, 4, 219, 0, 0, 4, 242] = true := by decide +kernel
theorem lb_6 : dl_ck (cL_law.data.toList.drop 192) [0, 0, 5, 9, 0, 0, 5, 52, 0, 0, 5, 75, 0, 0, 5, 108, 0, 0, 5, 141, 0, 0, 5, 184, 0, 0, 5, 217, 0, 0, 5, 230] = true := by decide +kernel
theorem lb_7 : dl_ck (cL_law.data.toList.drop 224) [0, 0, 5, 243, 0, 0, 6, 0, 0, 0, 6, 23, 0, 0, 6, 36, 0, 0, 6, 59, 43, 42, 29, 4, 96, 46, 42, 29, 5, 96, 46, 182] = true := by decide +kernel
theorem lb_8 : dl_ck (cL_law.data.toList.drop 256) [0, 13, 87, 44, 42, 29, 4, 96, 46, 42, 29, 5, 96, 46, 182, 0, 17, 87, 167, 5, 87, 43, 42, 29, 4, 96, 46, 42, 29, 5, 96, 46] = true := by decide +kernel
theorem lb_9 : dl_ck (cL_law.data.toList.drop 288) [42, 29, 6, 96, 46, 182, 0, 18, 87, 44, 42, 29, 4, 96, 46, 42, 29, 5, 96, 46, 42, 29, 6, 96, 46, 182, 0, 22, 87, 167, 5, 44] = true := by decide +kernel
theorem lb_10 : dl_ck (cL_law.data.toList.drop 320) [43, 42, 29, 4, 96, 46, 42, 29, 5, 96, 46, 182, 0, 23, 87, 44, 42, 29, 4, 96, 46, 42, 29, 5, 96, 46, 182, 0, 26, 87, 167, 5] = true := by decide +kernel
theorem lb_11 : dl_ck (cL_law.data.toList.drop 352) [11, 43, 42, 29, 4, 96, 46, 182, 0, 27, 87, 44, 42, 29, 4, 96, 46, 182, 0, 31, 87, 167, 4, 244, 43, 42, 29, 4, 96, 46, 42, 29] = true := by decide +kernel
theorem lb_12 : dl_ck (cL_law.data.toList.drop 384) [5, 96, 46, 42, 29, 6, 96, 46, 42, 29, 7, 96, 46, 42, 29, 8, 96, 46, 182, 0, 32, 87, 44, 42, 29, 4, 96, 46, 42, 29, 5, 96] = true := by decide +kernel
theorem lb_13 : dl_ck (cL_law.data.toList.drop 416) [46, 42, 29, 6, 96, 46, 42, 29, 7, 96, 46, 42, 29, 8, 96, 46, 182, 0, 36, 87, 167, 4, 181, 43, 42, 29, 4, 96, 46, 182, 0, 37] = true := by decide +kernel
theorem lb_14 : dl_ck (cL_law.data.toList.drop 448) [87, 44, 42, 29, 4, 96, 46, 182, 0, 40, 87, 167, 4, 158, 43, 42, 29, 4, 96, 46, 42, 29, 5, 96, 46, 182, 0, 41, 87, 44, 42, 29] = true := by decide +kernel
theorem lb_15 : dl_ck (cL_law.data.toList.drop 480) [4, 96, 46, 42, 29, 5, 96, 46, 182, 0, 44, 87, 167, 4, 125, 43, 42, 29, 4, 96, 46, 42, 29, 5, 96, 46, 42, 29, 6, 96, 46, 182] = true := by decide +kernel
theorem lb_16 : dl_ck (cL_law.data.toList.drop 512) [0, 45, 87, 44, 42, 29, 4, 96, 46, 42, 29, 5, 96, 46, 42, 29, 6, 96, 46, 182, 0, 48, 87, 167, 4, 82, 43, 42, 29, 4, 96, 46] = true := by decide +kernel
theorem lb_17 : dl_ck (cL_law.data.toList.drop 544) [182, 0, 49, 87, 44, 42, 29, 4, 96, 46, 182, 0, 52, 87, 167, 4, 59, 43, 42, 29, 4, 96, 46, 182, 0, 53, 87, 44, 42, 29, 4, 96] = true := by decide +kernel
theorem lb_18 : dl_ck (cL_law.data.toList.drop 576) [46, 182, 0, 56, 87, 167, 4, 36, 43, 42, 29, 4, 96, 46, 42, 29, 5, 96, 46, 182, 0, 57, 87, 44, 42, 29, 4, 96, 46, 42, 29, 5] = true := by decide +kernel
theorem lb_19 : dl_ck (cL_law.data.toList.drop 608) [96, 46, 182, 0, 60, 87, 167, 4, 3, 43, 42, 29, 4, 96, 46, 42, 29, 5, 96, 46, 182, 0, 61, 87, 44, 42, 29, 4, 96, 46, 42, 29] = true := by decide +kernel
theorem lb_20 : dl_ck (cL_law.data.toList.drop 640) [5, 96, 46, 182, 0, 64, 87, 167, 3, 226, 43, 42, 29, 4, 96, 46, 42, 29, 5, 96, 46, 182, 0, 65, 87, 44, 42, 29, 4, 96, 46, 42] = true := by decide +kernel
theorem lb_21 : dl_ck (cL_law.data.toList.drop 672) [29, 5, 96, 46, 182, 0, 68, 87, 167, 3, 193, 43, 42, 29, 4, 96, 46, 42, 29, 5, 96, 46, 182, 0, 69, 87, 44, 42, 29, 4, 96, 46] = true := by decide +kernel
theorem lb_22 : dl_ck (cL_law.data.toList.drop 704) [42, 29, 5, 96, 46, 182, 0, 72, 87, 167, 3, 160, 43, 42, 29, 4, 96, 46, 42, 29, 5, 96, 46, 182, 0, 73, 87, 44, 42, 29, 4, 96] = true := by decide +kernel
theorem lb_23 : dl_ck (cL_law.data.toList.drop 736) [46, 42, 29, 5, 96, 46, 182, 0, 76, 87, 167, 3, 127, 43, 42, 29, 4, 96, 46, 182, 0, 77, 87, 44, 42, 29, 4, 96, 46, 182, 0, 80] = true := by decide +kernel
theorem lb_24 : dl_ck (cL_law.data.toList.drop 768) [87, 167, 3, 104, 43, 42, 29, 4, 96, 46, 42, 29, 5, 96, 46, 42, 29, 6, 96, 46, 42, 29, 7, 96, 46, 182, 0, 81, 87, 44, 42, 29] = true := by decide +kernel
theorem lb_25 : dl_ck (cL_law.data.toList.drop 800) [4, 96, 46, 42, 29, 5, 96, 46, 42, 29, 6, 96, 46, 42, 29, 7, 96, 46, 182, 0, 85, 87, 167, 3, 51, 43, 42, 29, 4, 96, 46, 42] = true := by decide +kernel
theorem lb_26 : dl_ck (cL_law.data.toList.drop 832) [29, 5, 96, 46, 182, 0, 86, 87, 44, 42, 29, 4, 96, 46, 42, 29, 5, 96, 46, 182, 0, 89, 87, 167, 3, 18, 43, 42, 29, 4, 96, 46] = true := by decide +kernel
theorem lb_27 : dl_ck (cL_law.data.toList.drop 864) [182, 0, 90, 87, 44, 42, 29, 4, 96, 46, 182, 0, 93, 87, 167, 2, 251, 43, 42, 29, 4, 96, 46, 182, 0, 94, 87, 44, 42, 29, 4, 96] = true := by decide +kernel
theorem lb_28 : dl_ck (cL_law.data.toList.drop 896) [46, 182, 0, 97, 87, 167, 2, 228, 43, 42, 29, 4, 96, 46, 42, 29, 5, 96, 46, 182, 0, 98, 87, 44, 42, 29, 4, 96, 46, 42, 29, 5] = true := by decide +kernel
theorem lb_29 : dl_ck (cL_law.data.toList.drop 928) [96, 46, 182, 0, 101, 87, 167, 2, 195, 43, 42, 29, 4, 96, 46, 182, 0, 102, 87, 44, 42, 29, 4, 96, 46, 182, 0, 105, 87, 167, 2, 172] = true := by decide +kernel
theorem lb_30 : dl_ck (cL_law.data.toList.drop 960) [43, 42, 29, 4, 96, 46, 182, 0, 106, 87, 44, 42, 29, 4, 96, 46, 182, 0, 109, 87, 167, 2, 149, 43, 42, 29, 4, 96, 46, 182, 0, 110] = true := by decide +kernel
theorem lb_31 : dl_ck (cL_law.data.toList.drop 992) [87, 44, 42, 29, 4, 96, 46, 182, 0, 113, 87, 167, 2, 126, 43, 42, 29, 4, 96, 46, 182, 0, 114, 87, 44, 42, 29, 4, 96, 46, 182, 0] = true := by decide +kernel
theorem lb_32 : dl_ck (cL_law.data.toList.drop 1024) [117, 87, 167, 2, 103, 43, 42, 29, 4, 96, 46, 42, 29, 5, 96, 46, 182, 0, 118, 87, 44, 42, 29, 4, 96, 46, 42, 29, 5, 96, 46, 182] = true := by decide +kernel
theorem lb_33 : dl_ck (cL_law.data.toList.drop 1056) [0, 121, 87, 167, 2, 70, 43, 42, 29, 4, 96, 46, 42, 29, 5, 96, 46, 182, 0, 122, 87, 44, 42, 29, 4, 96, 46, 42, 29, 5, 96, 46] = true := by decide +kernel
theorem lb_34 : dl_ck (cL_law.data.toList.drop 1088) [182, 0, 125, 87, 167, 2, 37, 43, 42, 29, 4, 96, 46, 182, 0, 126, 87, 44, 42, 29, 4, 96, 46, 182, 0, 129, 87, 167, 2, 14, 43, 42] = true := by decide +kernel
theorem lb_35 : dl_ck (cL_law.data.toList.drop 1120) [29, 4, 96, 46, 182, 0, 130, 87, 44, 42, 29, 4, 96, 46, 182, 0, 133, 87, 167, 1, 247, 43, 42, 29, 4, 96, 46, 182, 0, 134, 87, 44] = true := by decide +kernel
theorem lb_36 : dl_ck (cL_law.data.toList.drop 1152) [42, 29, 4, 96, 46, 182, 0, 137, 87, 167, 1, 224, 43, 42, 29, 4, 96, 46, 182, 0, 138, 87, 44, 42, 29, 4, 96, 46, 182, 0, 141, 87] = true := by decide +kernel
theorem lb_37 : dl_ck (cL_law.data.toList.drop 1184) [167, 1, 201, 43, 42, 29, 4, 96, 46, 182, 0, 142, 44, 42, 29, 4, 96, 46, 182, 0, 145, 159, 1, 180, 3, 172, 43, 42, 29, 4, 96, 46] = true := by decide +kernel
theorem lb_38 : dl_ck (cL_law.data.toList.drop 1216) [182, 0, 146, 87, 44, 42, 29, 4, 96, 46, 182, 0, 149, 87, 167, 1, 155, 43, 42, 29, 4, 96, 46, 42, 29, 5, 96, 46, 42, 29, 6, 96] = true := by decide +kernel
theorem lb_39 : dl_ck (cL_law.data.toList.drop 1248) [46, 182, 0, 150, 87, 44, 42, 29, 4, 96, 46, 42, 29, 5, 96, 46, 42, 29, 6, 96, 46, 182, 0, 153, 87, 167, 1, 112, 43, 42, 29, 4] = true := by decide +kernel
theorem lb_40 : dl_ck (cL_law.data.toList.drop 1280) [96, 46, 182, 0, 154, 87, 44, 42, 29, 4, 96, 46, 182, 0, 157, 87, 167, 1, 89, 43, 42, 29, 4, 96, 46, 182, 0, 158, 87, 44, 42, 29] = true := by decide +kernel
theorem lb_41 : dl_ck (cL_law.data.toList.drop 1312) [4, 96, 46, 182, 0, 161, 87, 167, 1, 66, 43, 42, 29, 4, 96, 46, 42, 29, 5, 96, 46, 42, 29, 6, 96, 46, 182, 0, 162, 87, 44, 42] = true := by decide +kernel
theorem lb_42 : dl_ck (cL_law.data.toList.drop 1344) [29, 4, 96, 46, 42, 29, 5, 96, 46, 42, 29, 6, 96, 46, 182, 0, 165, 87, 167, 1, 23, 43, 42, 29, 4, 96, 46, 182, 0, 166, 87, 44] = true := by decide +kernel
theorem lb_43 : dl_ck (cL_law.data.toList.drop 1376) [42, 29, 4, 96, 46, 182, 0, 169, 87, 167, 1, 0, 43, 42, 29, 4, 96, 46, 42, 29, 5, 96, 46, 182, 0, 170, 87, 44, 42, 29, 4, 96] = true := by decide +kernel
theorem lb_44 : dl_ck (cL_law.data.toList.drop 1408) [46, 42, 29, 5, 96, 46, 182, 0, 173, 87, 167, 0, 223, 43, 42, 29, 4, 96, 46, 42, 29, 5, 96, 46, 182, 0, 174, 87, 44, 42, 29, 4] = true := by decide +kernel
theorem lb_45 : dl_ck (cL_law.data.toList.drop 1440) [96, 46, 42, 29, 5, 96, 46, 182, 0, 177, 87, 167, 0, 190, 43, 42, 29, 4, 96, 46, 42, 29, 5, 96, 46, 42, 29, 6, 96, 46, 182, 0] = true := by decide +kernel
theorem lb_46 : dl_ck (cL_law.data.toList.drop 1472) [178, 87, 44, 42, 29, 4, 96, 46, 42, 29, 5, 96, 46, 42, 29, 6, 96, 46, 182, 0, 181, 87, 167, 0, 147, 43, 42, 29, 4, 96, 46, 42] = true := by decide +kernel
theorem lb_47 : dl_ck (cL_law.data.toList.drop 1504) [29, 5, 96, 46, 182, 0, 182, 87, 44, 42, 29, 4, 96, 46, 42, 29, 5, 96, 46, 182, 0, 185, 87, 167, 0, 114, 43, 182, 0, 186, 87, 44] = true := by decide +kernel
theorem lb_48 : dl_ck (cL_law.data.toList.drop 1536) [182, 0, 190, 87, 167, 0, 101, 43, 182, 0, 191, 88, 44, 182, 0, 195, 88, 167, 0, 88, 43, 182, 0, 196, 88, 44, 182, 0, 199, 88, 167, 0] = true := by decide +kernel
theorem lb_49 : dl_ck (cL_law.data.toList.drop 1568) [75, 43, 42, 29, 4, 96, 46, 182, 0, 200, 87, 44, 42, 29, 4, 96, 46, 182, 0, 203, 87, 167, 0, 52, 43, 182, 0, 204, 87, 44, 182, 0] = true := by decide +kernel
theorem lb_50 : dl_ck (cL_law.data.toList.drop 1600) [207, 87, 167, 0, 39, 43, 42, 29, 4, 96, 46, 182, 0, 208, 87, 44, 42, 29, 4, 96, 46, 182, 0, 211, 87, 167, 0, 16, 43, 182, 0, 212] = true := by decide +kernel
theorem lb_51 : dl_ck (cL_law.data.toList.drop 1632) [88, 44, 182, 0, 215, 88, 167, 0, 3, 132, 3, 6, 167, 249, 166, 4, 172] = true := by decide +kernel
theorem mw_2_195 : (Cond.code yX11_row cX11_row 3 (some .int) : Cond) ∈ lw_good := lg_at 2 195 rfl rfl
theorem mw_2_192 : (Cond.methodLink RL 13 yX11_row : Cond) ∈ lw_good := lg_at 2 192 rfl rfl
theorem mw_2_193 : (Cond.instanceMethod yX11_row : Cond) ∈ lw_good := lg_at 2 193 rfl rfl
theorem mw_2_194 : (Cond.selects RX11 yX11_row yX11_row : Cond) ∈ lw_good := lg_at 2 194 rfl rfl
theorem mw_5_180 : (Cond.methodLink RL 17 yX12_row : Cond) ∈ lw_good := lg_at 5 180 rfl rfl
theorem mw_2_213 : (Cond.code yX11_lay cX11_lay 5 (some .int) : Cond) ∈ lw_good := lg_at 2 213 rfl rfl
theorem mw_2_210 : (Cond.methodLink RL 18 yX11_lay : Cond) ∈ lw_good := lg_at 2 210 rfl rfl
theorem mw_2_211 : (Cond.instanceMethod yX11_lay : Cond) ∈ lw_good := lg_at 2 211 rfl rfl
theorem mw_2_212 : (Cond.selects RX11 yX11_lay yX11_lay : Cond) ∈ lw_good := lg_at 2 212 rfl rfl
theorem mw_5_217 : (Cond.code yX12_lay cX12_lay 5 (some .int) : Cond) ∈ lw_good := lg_at 5 217 rfl rfl
theorem mw_5_214 : (Cond.methodLink RL 22 yX12_lay : Cond) ∈ lw_good := lg_at 5 214 rfl rfl
theorem mw_5_215 : (Cond.instanceMethod yX12_lay : Cond) ∈ lw_good := lg_at 5 215 rfl rfl
theorem mw_5_216 : (Cond.selects RX12 yX12_lay yX12_lay : Cond) ∈ lw_good := lg_at 5 216 rfl rfl
theorem mw_2_229 : (Cond.code yX11_at cX11_at 4 (some .int) : Cond) ∈ lw_good := lg_at 2 229 rfl rfl
theorem mw_2_226 : (Cond.methodLink RL 23 yX11_at : Cond) ∈ lw_good := lg_at 2 226 rfl rfl
theorem mw_2_227 : (Cond.instanceMethod yX11_at : Cond) ∈ lw_good := lg_at 2 227 rfl rfl
theorem mw_2_228 : (Cond.selects RX11 yX11_at yX11_at : Cond) ∈ lw_good := lg_at 2 228 rfl rfl
theorem mw_5_198 : (Cond.methodLink RL 26 yX12_at : Cond) ∈ lw_good := lg_at 5 198 rfl rfl
theorem mw_2_233 : (Cond.code yX11_tear cX11_tear 3 (some .int) : Cond) ∈ lw_good := lg_at 2 233 rfl rfl
theorem mw_2_230 : (Cond.methodLink RL 27 yX11_tear : Cond) ∈ lw_good := lg_at 2 230 rfl rfl
theorem mw_2_231 : (Cond.instanceMethod yX11_tear : Cond) ∈ lw_good := lg_at 2 231 rfl rfl
theorem mw_2_232 : (Cond.selects RX11 yX11_tear yX11_tear : Cond) ∈ lw_good := lg_at 2 232 rfl rfl
theorem mw_5_222 : (Cond.code yX12_tear cX12_tear 3 (some .int) : Cond) ∈ lw_good := lg_at 5 222 rfl rfl
theorem mw_5_219 : (Cond.methodLink RL 31 yX12_tear : Cond) ∈ lw_good := lg_at 5 219 rfl rfl
theorem mw_5_220 : (Cond.instanceMethod yX12_tear : Cond) ∈ lw_good := lg_at 5 220 rfl rfl
theorem mw_5_221 : (Cond.selects RX12 yX12_tear yX12_tear : Cond) ∈ lw_good := lg_at 5 221 rfl rfl
theorem mw_2_237 : (Cond.code yX11_copy cX11_copy 6 (some .int) : Cond) ∈ lw_good := lg_at 2 237 rfl rfl
theorem mw_2_234 : (Cond.methodLink RL 32 yX11_copy : Cond) ∈ lw_good := lg_at 2 234 rfl rfl
theorem mw_2_235 : (Cond.instanceMethod yX11_copy : Cond) ∈ lw_good := lg_at 2 235 rfl rfl
theorem mw_2_236 : (Cond.selects RX11 yX11_copy yX11_copy : Cond) ∈ lw_good := lg_at 2 236 rfl rfl
theorem mw_5_226 : (Cond.code yX12_copy cX12_copy 7 (some .int) : Cond) ∈ lw_good := lg_at 5 226 rfl rfl
theorem mw_5_223 : (Cond.methodLink RL 36 yX12_copy : Cond) ∈ lw_good := lg_at 5 223 rfl rfl
theorem mw_5_224 : (Cond.instanceMethod yX12_copy : Cond) ∈ lw_good := lg_at 5 224 rfl rfl
theorem mw_5_225 : (Cond.selects RX12 yX12_copy yX12_copy : Cond) ∈ lw_good := lg_at 5 225 rfl rfl
theorem mw_3_8 : (Cond.code yX11_mean cX11_mean 7 (some .int) : Cond) ∈ lw_good := lg_at 3 8 rfl rfl
theorem mw_3_5 : (Cond.methodLink RL 37 yX11_mean : Cond) ∈ lw_good := lg_at 3 5 rfl rfl
theorem mw_3_6 : (Cond.instanceMethod yX11_mean : Cond) ∈ lw_good := lg_at 3 6 rfl rfl
theorem mw_3_7 : (Cond.selects RX11 yX11_mean yX11_mean : Cond) ∈ lw_good := lg_at 3 7 rfl rfl
theorem mw_5_230 : (Cond.code yX12_mean cX12_mean 6 (some .int) : Cond) ∈ lw_good := lg_at 5 230 rfl rfl
theorem mw_5_227 : (Cond.methodLink RL 40 yX12_mean : Cond) ∈ lw_good := lg_at 5 227 rfl rfl
theorem mw_5_228 : (Cond.instanceMethod yX12_mean : Cond) ∈ lw_good := lg_at 5 228 rfl rfl
theorem mw_5_229 : (Cond.selects RX12 yX12_mean yX12_mean : Cond) ∈ lw_good := lg_at 5 229 rfl rfl
theorem mw_3_12 : (Cond.code yX11_text cX11_text 3 (some .int) : Cond) ∈ lw_good := lg_at 3 12 rfl rfl
theorem mw_3_9 : (Cond.methodLink RL 41 yX11_text : Cond) ∈ lw_good := lg_at 3 9 rfl rfl
theorem mw_3_10 : (Cond.instanceMethod yX11_text : Cond) ∈ lw_good := lg_at 3 10 rfl rfl
theorem mw_3_11 : (Cond.selects RX11 yX11_text yX11_text : Cond) ∈ lw_good := lg_at 3 11 rfl rfl
theorem mw_5_234 : (Cond.code yX12_text cX12_text 4 (some .int) : Cond) ∈ lw_good := lg_at 5 234 rfl rfl
theorem mw_5_231 : (Cond.methodLink RL 44 yX12_text : Cond) ∈ lw_good := lg_at 5 231 rfl rfl
theorem mw_5_232 : (Cond.instanceMethod yX12_text : Cond) ∈ lw_good := lg_at 5 232 rfl rfl
theorem mw_5_233 : (Cond.selects RX12 yX12_text yX12_text : Cond) ∈ lw_good := lg_at 5 233 rfl rfl
theorem mw_3_26 : (Cond.code yX11_put cX11_put 6 (some .int) : Cond) ∈ lw_good := lg_at 3 26 rfl rfl
theorem mw_3_23 : (Cond.methodLink RL 45 yX11_put : Cond) ∈ lw_good := lg_at 3 23 rfl rfl
theorem mw_3_24 : (Cond.instanceMethod yX11_put : Cond) ∈ lw_good := lg_at 3 24 rfl rfl
theorem mw_3_25 : (Cond.selects RX11 yX11_put yX11_put : Cond) ∈ lw_good := lg_at 3 25 rfl rfl
theorem mw_6_1 : (Cond.code yX12_put cX12_put 6 (some .int) : Cond) ∈ lw_good := lg_at 6 1 rfl rfl
theorem mw_5_238 : (Cond.methodLink RL 48 yX12_put : Cond) ∈ lw_good := lg_at 5 238 rfl rfl
theorem mw_5_239 : (Cond.instanceMethod yX12_put : Cond) ∈ lw_good := lg_at 5 239 rfl rfl
theorem mw_6_0 : (Cond.selects RX12 yX12_put yX12_put : Cond) ∈ lw_good := lg_at 6 0 rfl rfl
theorem mw_3_38 : (Cond.code yX11_fault cX11_fault 3 (some .int) : Cond) ∈ lw_good := lg_at 3 38 rfl rfl
theorem mw_3_35 : (Cond.methodLink RL 49 yX11_fault : Cond) ∈ lw_good := lg_at 3 35 rfl rfl
theorem mw_3_36 : (Cond.instanceMethod yX11_fault : Cond) ∈ lw_good := lg_at 3 36 rfl rfl
theorem mw_3_37 : (Cond.selects RX11 yX11_fault yX11_fault : Cond) ∈ lw_good := lg_at 3 37 rfl rfl
theorem mw_6_9 : (Cond.code yX12_fault cX12_fault 3 (some .int) : Cond) ∈ lw_good := lg_at 6 9 rfl rfl
theorem mw_6_6 : (Cond.methodLink RL 52 yX12_fault : Cond) ∈ lw_good := lg_at 6 6 rfl rfl
theorem mw_6_7 : (Cond.instanceMethod yX12_fault : Cond) ∈ lw_good := lg_at 6 7 rfl rfl
theorem mw_6_8 : (Cond.selects RX12 yX12_fault yX12_fault : Cond) ∈ lw_good := lg_at 6 8 rfl rfl
theorem mw_3_63 : (Cond.code yX11_town cX11_town 4 (some .int) : Cond) ∈ lw_good := lg_at 3 63 rfl rfl
theorem mw_3_60 : (Cond.methodLink RL 53 yX11_town : Cond) ∈ lw_good := lg_at 3 60 rfl rfl
theorem mw_3_61 : (Cond.instanceMethod yX11_town : Cond) ∈ lw_good := lg_at 3 61 rfl rfl
theorem mw_3_62 : (Cond.selects RX11 yX11_town yX11_town : Cond) ∈ lw_good := lg_at 3 62 rfl rfl
theorem mw_6_32 : (Cond.code yX12_town cX12_town 4 (some .int) : Cond) ∈ lw_good := lg_at 6 32 rfl rfl
theorem mw_6_29 : (Cond.methodLink RL 56 yX12_town : Cond) ∈ lw_good := lg_at 6 29 rfl rfl
theorem mw_6_30 : (Cond.instanceMethod yX12_town : Cond) ∈ lw_good := lg_at 6 30 rfl rfl
theorem mw_6_31 : (Cond.selects RX12 yX12_town yX12_town : Cond) ∈ lw_good := lg_at 6 31 rfl rfl
theorem mw_3_72 : (Cond.code yX11_bearer cX11_bearer 3 (some .int) : Cond) ∈ lw_good := lg_at 3 72 rfl rfl
theorem mw_3_69 : (Cond.methodLink RL 57 yX11_bearer : Cond) ∈ lw_good := lg_at 3 69 rfl rfl
theorem mw_3_70 : (Cond.instanceMethod yX11_bearer : Cond) ∈ lw_good := lg_at 3 70 rfl rfl
theorem mw_3_71 : (Cond.selects RX11 yX11_bearer yX11_bearer : Cond) ∈ lw_good := lg_at 3 71 rfl rfl
theorem mw_6_36 : (Cond.code yX12_bearer cX12_bearer 3 (some .int) : Cond) ∈ lw_good := lg_at 6 36 rfl rfl
theorem mw_6_33 : (Cond.methodLink RL 60 yX12_bearer : Cond) ∈ lw_good := lg_at 6 33 rfl rfl
theorem mw_6_34 : (Cond.instanceMethod yX12_bearer : Cond) ∈ lw_good := lg_at 6 34 rfl rfl
theorem mw_6_35 : (Cond.selects RX12 yX12_bearer yX12_bearer : Cond) ∈ lw_good := lg_at 6 35 rfl rfl
theorem mw_3_101 : (Cond.code yX11_mark cX11_mark 3 (some .int) : Cond) ∈ lw_good := lg_at 3 101 rfl rfl
theorem mw_3_98 : (Cond.methodLink RL 61 yX11_mark : Cond) ∈ lw_good := lg_at 3 98 rfl rfl
theorem mw_3_99 : (Cond.instanceMethod yX11_mark : Cond) ∈ lw_good := lg_at 3 99 rfl rfl
theorem mw_3_100 : (Cond.selects RX11 yX11_mark yX11_mark : Cond) ∈ lw_good := lg_at 3 100 rfl rfl
theorem mw_6_66 : (Cond.code yX12_mark cX12_mark 6 (some .int) : Cond) ∈ lw_good := lg_at 6 66 rfl rfl
theorem mw_6_63 : (Cond.methodLink RL 64 yX12_mark : Cond) ∈ lw_good := lg_at 6 63 rfl rfl
theorem mw_6_64 : (Cond.instanceMethod yX12_mark : Cond) ∈ lw_good := lg_at 6 64 rfl rfl
theorem mw_6_65 : (Cond.selects RX12 yX12_mark yX12_mark : Cond) ∈ lw_good := lg_at 6 65 rfl rfl
theorem mw_3_124 : (Cond.code yX11_purse cX11_purse 4 (some .int) : Cond) ∈ lw_good := lg_at 3 124 rfl rfl
theorem mw_3_121 : (Cond.methodLink RL 65 yX11_purse : Cond) ∈ lw_good := lg_at 3 121 rfl rfl
theorem mw_3_122 : (Cond.instanceMethod yX11_purse : Cond) ∈ lw_good := lg_at 3 122 rfl rfl
theorem mw_3_123 : (Cond.selects RX11 yX11_purse yX11_purse : Cond) ∈ lw_good := lg_at 3 123 rfl rfl
theorem mw_6_82 : (Cond.code yX12_purse cX12_purse 4 (some .int) : Cond) ∈ lw_good := lg_at 6 82 rfl rfl
theorem mw_6_79 : (Cond.methodLink RL 68 yX12_purse : Cond) ∈ lw_good := lg_at 6 79 rfl rfl
theorem mw_6_80 : (Cond.instanceMethod yX12_purse : Cond) ∈ lw_good := lg_at 6 80 rfl rfl
theorem mw_6_81 : (Cond.selects RX12 yX12_purse yX12_purse : Cond) ∈ lw_good := lg_at 6 81 rfl rfl
theorem dL_law_244 : decode cL_law 244 = .ok (.aload_n 1, 1) := dc_aload1 (dl_at 224 20 lb_7 rfl)
theorem dL_law_245 : decode cL_law 245 = .ok (.aload_n 0, 1) := dc_aload0 (dl_at 224 21 lb_7 rfl)
theorem dL_law_246 : decode cL_law 246 = .ok (.iload_n 3, 1) := dc_iload3 (dl_at 224 22 lb_7 rfl)
theorem dL_law_247 : decode cL_law 247 = .ok (.iconst 1, 1) := dc_iconst1 (dl_at 224 23 lb_7 rfl)
theorem dL_law_248 : decode cL_law 248 = .ok (.iadd, 1) := dc_iadd (dl_at 224 24 lb_7 rfl)
theorem dL_law_249 : decode cL_law 249 = .ok (.iaload, 1) := dc_iaload (dl_at 224 25 lb_7 rfl)
theorem dL_law_250 : decode cL_law 250 = .ok (.aload_n 0, 1) := dc_aload0 (dl_at 224 26 lb_7 rfl)
theorem dL_law_251 : decode cL_law 251 = .ok (.iload_n 3, 1) := dc_iload3 (dl_at 224 27 lb_7 rfl)
theorem dL_law_252 : decode cL_law 252 = .ok (.iconst 2, 1) := dc_iconst2 (dl_at 224 28 lb_7 rfl)
theorem dL_law_253 : decode cL_law 253 = .ok (.iadd, 1) := dc_iadd (dl_at 224 29 lb_7 rfl)
theorem dL_law_254 : decode cL_law 254 = .ok (.iaload, 1) := dc_iaload (dl_at 224 30 lb_7 rfl)
theorem dL_law_255 : decode cL_law 255 = .ok (.invokevirtual 13, 3) := dc_virt (a := 0) (b := 13) (dl_at 224 31 lb_7 rfl) (dl_at 256 0 lb_8 rfl) (dl_at 256 1 lb_8 rfl)
theorem dL_law_258 : decode cL_law 258 = .ok (.pop, 1) := dc_pop (dl_at 256 2 lb_8 rfl)
theorem dL_law_259 : decode cL_law 259 = .ok (.aload_n 2, 1) := dc_aload2 (dl_at 256 3 lb_8 rfl)
theorem dL_law_260 : decode cL_law 260 = .ok (.aload_n 0, 1) := dc_aload0 (dl_at 256 4 lb_8 rfl)
theorem dL_law_261 : decode cL_law 261 = .ok (.iload_n 3, 1) := dc_iload3 (dl_at 256 5 lb_8 rfl)
theorem dL_law_262 : decode cL_law 262 = .ok (.iconst 1, 1) := dc_iconst1 (dl_at 256 6 lb_8 rfl)
theorem dL_law_263 : decode cL_law 263 = .ok (.iadd, 1) := dc_iadd (dl_at 256 7 lb_8 rfl)
theorem dL_law_264 : decode cL_law 264 = .ok (.iaload, 1) := dc_iaload (dl_at 256 8 lb_8 rfl)
theorem dL_law_265 : decode cL_law 265 = .ok (.aload_n 0, 1) := dc_aload0 (dl_at 256 9 lb_8 rfl)
theorem dL_law_266 : decode cL_law 266 = .ok (.iload_n 3, 1) := dc_iload3 (dl_at 256 10 lb_8 rfl)
theorem dL_law_267 : decode cL_law 267 = .ok (.iconst 2, 1) := dc_iconst2 (dl_at 256 11 lb_8 rfl)
theorem dL_law_268 : decode cL_law 268 = .ok (.iadd, 1) := dc_iadd (dl_at 256 12 lb_8 rfl)
theorem dL_law_269 : decode cL_law 269 = .ok (.iaload, 1) := dc_iaload (dl_at 256 13 lb_8 rfl)
theorem dL_law_270 : decode cL_law 270 = .ok (.invokevirtual 17, 3) := dc_virt (a := 0) (b := 17) (dl_at 256 14 lb_8 rfl) (dl_at 256 15 lb_8 rfl) (dl_at 256 16 lb_8 rfl)
theorem dL_law_273 : decode cL_law 273 = .ok (.pop, 1) := dc_pop (dl_at 256 17 lb_8 rfl)
theorem dL_law_274 : decode cL_law 274 = .ok (.goto 1367, 3) := dc_goto (a := 5) (b := 87) (dl_at 256 18 lb_8 rfl) (dl_at 256 19 lb_8 rfl) (dl_at 256 20 lb_8 rfl) (by decide +kernel)
theorem dL_law_277 : decode cL_law 277 = .ok (.aload_n 1, 1) := dc_aload1 (dl_at 256 21 lb_8 rfl)
theorem dL_law_278 : decode cL_law 278 = .ok (.aload_n 0, 1) := dc_aload0 (dl_at 256 22 lb_8 rfl)
theorem dL_law_279 : decode cL_law 279 = .ok (.iload_n 3, 1) := dc_iload3 (dl_at 256 23 lb_8 rfl)
theorem dL_law_280 : decode cL_law 280 = .ok (.iconst 1, 1) := dc_iconst1 (dl_at 256 24 lb_8 rfl)
theorem dL_law_281 : decode cL_law 281 = .ok (.iadd, 1) := dc_iadd (dl_at 256 25 lb_8 rfl)
theorem dL_law_282 : decode cL_law 282 = .ok (.iaload, 1) := dc_iaload (dl_at 256 26 lb_8 rfl)
theorem dL_law_283 : decode cL_law 283 = .ok (.aload_n 0, 1) := dc_aload0 (dl_at 256 27 lb_8 rfl)
theorem dL_law_284 : decode cL_law 284 = .ok (.iload_n 3, 1) := dc_iload3 (dl_at 256 28 lb_8 rfl)
theorem dL_law_285 : decode cL_law 285 = .ok (.iconst 2, 1) := dc_iconst2 (dl_at 256 29 lb_8 rfl)
theorem dL_law_286 : decode cL_law 286 = .ok (.iadd, 1) := dc_iadd (dl_at 256 30 lb_8 rfl)
theorem dL_law_287 : decode cL_law 287 = .ok (.iaload, 1) := dc_iaload (dl_at 256 31 lb_8 rfl)
theorem dL_law_288 : decode cL_law 288 = .ok (.aload_n 0, 1) := dc_aload0 (dl_at 288 0 lb_9 rfl)
theorem dL_law_289 : decode cL_law 289 = .ok (.iload_n 3, 1) := dc_iload3 (dl_at 288 1 lb_9 rfl)
theorem dL_law_290 : decode cL_law 290 = .ok (.iconst 3, 1) := dc_iconst3 (dl_at 288 2 lb_9 rfl)
theorem dL_law_291 : decode cL_law 291 = .ok (.iadd, 1) := dc_iadd (dl_at 288 3 lb_9 rfl)
theorem dL_law_292 : decode cL_law 292 = .ok (.iaload, 1) := dc_iaload (dl_at 288 4 lb_9 rfl)
theorem dL_law_293 : decode cL_law 293 = .ok (.invokevirtual 18, 3) := dc_virt (a := 0) (b := 18) (dl_at 288 5 lb_9 rfl) (dl_at 288 6 lb_9 rfl) (dl_at 288 7 lb_9 rfl)
theorem dL_law_296 : decode cL_law 296 = .ok (.pop, 1) := dc_pop (dl_at 288 8 lb_9 rfl)
theorem dL_law_297 : decode cL_law 297 = .ok (.aload_n 2, 1) := dc_aload2 (dl_at 288 9 lb_9 rfl)
theorem dL_law_298 : decode cL_law 298 = .ok (.aload_n 0, 1) := dc_aload0 (dl_at 288 10 lb_9 rfl)
theorem dL_law_299 : decode cL_law 299 = .ok (.iload_n 3, 1) := dc_iload3 (dl_at 288 11 lb_9 rfl)
theorem dL_law_300 : decode cL_law 300 = .ok (.iconst 1, 1) := dc_iconst1 (dl_at 288 12 lb_9 rfl)
theorem dL_law_301 : decode cL_law 301 = .ok (.iadd, 1) := dc_iadd (dl_at 288 13 lb_9 rfl)
theorem dL_law_302 : decode cL_law 302 = .ok (.iaload, 1) := dc_iaload (dl_at 288 14 lb_9 rfl)
theorem dL_law_303 : decode cL_law 303 = .ok (.aload_n 0, 1) := dc_aload0 (dl_at 288 15 lb_9 rfl)
theorem dL_law_304 : decode cL_law 304 = .ok (.iload_n 3, 1) := dc_iload3 (dl_at 288 16 lb_9 rfl)
theorem dL_law_305 : decode cL_law 305 = .ok (.iconst 2, 1) := dc_iconst2 (dl_at 288 17 lb_9 rfl)
theorem dL_law_306 : decode cL_law 306 = .ok (.iadd, 1) := dc_iadd (dl_at 288 18 lb_9 rfl)
theorem dL_law_307 : decode cL_law 307 = .ok (.iaload, 1) := dc_iaload (dl_at 288 19 lb_9 rfl)
theorem dL_law_308 : decode cL_law 308 = .ok (.aload_n 0, 1) := dc_aload0 (dl_at 288 20 lb_9 rfl)
theorem dL_law_309 : decode cL_law 309 = .ok (.iload_n 3, 1) := dc_iload3 (dl_at 288 21 lb_9 rfl)
theorem dL_law_310 : decode cL_law 310 = .ok (.iconst 3, 1) := dc_iconst3 (dl_at 288 22 lb_9 rfl)
theorem dL_law_311 : decode cL_law 311 = .ok (.iadd, 1) := dc_iadd (dl_at 288 23 lb_9 rfl)
theorem dL_law_312 : decode cL_law 312 = .ok (.iaload, 1) := dc_iaload (dl_at 288 24 lb_9 rfl)
theorem dL_law_313 : decode cL_law 313 = .ok (.invokevirtual 22, 3) := dc_virt (a := 0) (b := 22) (dl_at 288 25 lb_9 rfl) (dl_at 288 26 lb_9 rfl) (dl_at 288 27 lb_9 rfl)
theorem dL_law_316 : decode cL_law 316 = .ok (.pop, 1) := dc_pop (dl_at 288 28 lb_9 rfl)
theorem dL_law_317 : decode cL_law 317 = .ok (.goto 1324, 3) := dc_goto (a := 5) (b := 44) (dl_at 288 29 lb_9 rfl) (dl_at 288 30 lb_9 rfl) (dl_at 288 31 lb_9 rfl) (by decide +kernel)
theorem dL_law_320 : decode cL_law 320 = .ok (.aload_n 1, 1) := dc_aload1 (dl_at 320 0 lb_10 rfl)
theorem dL_law_321 : decode cL_law 321 = .ok (.aload_n 0, 1) := dc_aload0 (dl_at 320 1 lb_10 rfl)
theorem dL_law_322 : decode cL_law 322 = .ok (.iload_n 3, 1) := dc_iload3 (dl_at 320 2 lb_10 rfl)
theorem dL_law_323 : decode cL_law 323 = .ok (.iconst 1, 1) := dc_iconst1 (dl_at 320 3 lb_10 rfl)
theorem dL_law_324 : decode cL_law 324 = .ok (.iadd, 1) := dc_iadd (dl_at 320 4 lb_10 rfl)
theorem dL_law_325 : decode cL_law 325 = .ok (.iaload, 1) := dc_iaload (dl_at 320 5 lb_10 rfl)
theorem dL_law_326 : decode cL_law 326 = .ok (.aload_n 0, 1) := dc_aload0 (dl_at 320 6 lb_10 rfl)
theorem dL_law_327 : decode cL_law 327 = .ok (.iload_n 3, 1) := dc_iload3 (dl_at 320 7 lb_10 rfl)
theorem dL_law_328 : decode cL_law 328 = .ok (.iconst 2, 1) := dc_iconst2 (dl_at 320 8 lb_10 rfl)
theorem dL_law_329 : decode cL_law 329 = .ok (.iadd, 1) := dc_iadd (dl_at 320 9 lb_10 rfl)
theorem dL_law_330 : decode cL_law 330 = .ok (.iaload, 1) := dc_iaload (dl_at 320 10 lb_10 rfl)
theorem dL_law_331 : decode cL_law 331 = .ok (.invokevirtual 23, 3) := dc_virt (a := 0) (b := 23) (dl_at 320 11 lb_10 rfl) (dl_at 320 12 lb_10 rfl) (dl_at 320 13 lb_10 rfl)
theorem dL_law_334 : decode cL_law 334 = .ok (.pop, 1) := dc_pop (dl_at 320 14 lb_10 rfl)
theorem dL_law_335 : decode cL_law 335 = .ok (.aload_n 2, 1) := dc_aload2 (dl_at 320 15 lb_10 rfl)
theorem dL_law_336 : decode cL_law 336 = .ok (.aload_n 0, 1) := dc_aload0 (dl_at 320 16 lb_10 rfl)
theorem dL_law_337 : decode cL_law 337 = .ok (.iload_n 3, 1) := dc_iload3 (dl_at 320 17 lb_10 rfl)
theorem dL_law_338 : decode cL_law 338 = .ok (.iconst 1, 1) := dc_iconst1 (dl_at 320 18 lb_10 rfl)
theorem dL_law_339 : decode cL_law 339 = .ok (.iadd, 1) := dc_iadd (dl_at 320 19 lb_10 rfl)
theorem dL_law_340 : decode cL_law 340 = .ok (.iaload, 1) := dc_iaload (dl_at 320 20 lb_10 rfl)
theorem dL_law_341 : decode cL_law 341 = .ok (.aload_n 0, 1) := dc_aload0 (dl_at 320 21 lb_10 rfl)
theorem dL_law_342 : decode cL_law 342 = .ok (.iload_n 3, 1) := dc_iload3 (dl_at 320 22 lb_10 rfl)
theorem dL_law_343 : decode cL_law 343 = .ok (.iconst 2, 1) := dc_iconst2 (dl_at 320 23 lb_10 rfl)
theorem dL_law_344 : decode cL_law 344 = .ok (.iadd, 1) := dc_iadd (dl_at 320 24 lb_10 rfl)
theorem dL_law_345 : decode cL_law 345 = .ok (.iaload, 1) := dc_iaload (dl_at 320 25 lb_10 rfl)
theorem dL_law_346 : decode cL_law 346 = .ok (.invokevirtual 26, 3) := dc_virt (a := 0) (b := 26) (dl_at 320 26 lb_10 rfl) (dl_at 320 27 lb_10 rfl) (dl_at 320 28 lb_10 rfl)
theorem dL_law_349 : decode cL_law 349 = .ok (.pop, 1) := dc_pop (dl_at 320 29 lb_10 rfl)
theorem dL_law_350 : decode cL_law 350 = .ok (.goto 1291, 3) := dc_goto (a := 5) (b := 11) (dl_at 320 30 lb_10 rfl) (dl_at 320 31 lb_10 rfl) (dl_at 352 0 lb_11 rfl) (by decide +kernel)
theorem dL_law_353 : decode cL_law 353 = .ok (.aload_n 1, 1) := dc_aload1 (dl_at 352 1 lb_11 rfl)
theorem dL_law_354 : decode cL_law 354 = .ok (.aload_n 0, 1) := dc_aload0 (dl_at 352 2 lb_11 rfl)
theorem dL_law_355 : decode cL_law 355 = .ok (.iload_n 3, 1) := dc_iload3 (dl_at 352 3 lb_11 rfl)
theorem dL_law_356 : decode cL_law 356 = .ok (.iconst 1, 1) := dc_iconst1 (dl_at 352 4 lb_11 rfl)
theorem dL_law_357 : decode cL_law 357 = .ok (.iadd, 1) := dc_iadd (dl_at 352 5 lb_11 rfl)
theorem dL_law_358 : decode cL_law 358 = .ok (.iaload, 1) := dc_iaload (dl_at 352 6 lb_11 rfl)
theorem dL_law_359 : decode cL_law 359 = .ok (.invokevirtual 27, 3) := dc_virt (a := 0) (b := 27) (dl_at 352 7 lb_11 rfl) (dl_at 352 8 lb_11 rfl) (dl_at 352 9 lb_11 rfl)
theorem dL_law_362 : decode cL_law 362 = .ok (.pop, 1) := dc_pop (dl_at 352 10 lb_11 rfl)
theorem dL_law_363 : decode cL_law 363 = .ok (.aload_n 2, 1) := dc_aload2 (dl_at 352 11 lb_11 rfl)
theorem dL_law_364 : decode cL_law 364 = .ok (.aload_n 0, 1) := dc_aload0 (dl_at 352 12 lb_11 rfl)
theorem dL_law_365 : decode cL_law 365 = .ok (.iload_n 3, 1) := dc_iload3 (dl_at 352 13 lb_11 rfl)
theorem dL_law_366 : decode cL_law 366 = .ok (.iconst 1, 1) := dc_iconst1 (dl_at 352 14 lb_11 rfl)
theorem dL_law_367 : decode cL_law 367 = .ok (.iadd, 1) := dc_iadd (dl_at 352 15 lb_11 rfl)
theorem dL_law_368 : decode cL_law 368 = .ok (.iaload, 1) := dc_iaload (dl_at 352 16 lb_11 rfl)
theorem dL_law_369 : decode cL_law 369 = .ok (.invokevirtual 31, 3) := dc_virt (a := 0) (b := 31) (dl_at 352 17 lb_11 rfl) (dl_at 352 18 lb_11 rfl) (dl_at 352 19 lb_11 rfl)
theorem dL_law_372 : decode cL_law 372 = .ok (.pop, 1) := dc_pop (dl_at 352 20 lb_11 rfl)
theorem dL_law_373 : decode cL_law 373 = .ok (.goto 1268, 3) := dc_goto (a := 4) (b := 244) (dl_at 352 21 lb_11 rfl) (dl_at 352 22 lb_11 rfl) (dl_at 352 23 lb_11 rfl) (by decide +kernel)
theorem dL_law_376 : decode cL_law 376 = .ok (.aload_n 1, 1) := dc_aload1 (dl_at 352 24 lb_11 rfl)
theorem dL_law_377 : decode cL_law 377 = .ok (.aload_n 0, 1) := dc_aload0 (dl_at 352 25 lb_11 rfl)
theorem dL_law_378 : decode cL_law 378 = .ok (.iload_n 3, 1) := dc_iload3 (dl_at 352 26 lb_11 rfl)
theorem dL_law_379 : decode cL_law 379 = .ok (.iconst 1, 1) := dc_iconst1 (dl_at 352 27 lb_11 rfl)
theorem dL_law_380 : decode cL_law 380 = .ok (.iadd, 1) := dc_iadd (dl_at 352 28 lb_11 rfl)
theorem dL_law_381 : decode cL_law 381 = .ok (.iaload, 1) := dc_iaload (dl_at 352 29 lb_11 rfl)
theorem dL_law_382 : decode cL_law 382 = .ok (.aload_n 0, 1) := dc_aload0 (dl_at 352 30 lb_11 rfl)
theorem dL_law_383 : decode cL_law 383 = .ok (.iload_n 3, 1) := dc_iload3 (dl_at 352 31 lb_11 rfl)
theorem dL_law_384 : decode cL_law 384 = .ok (.iconst 2, 1) := dc_iconst2 (dl_at 384 0 lb_12 rfl)
theorem dL_law_385 : decode cL_law 385 = .ok (.iadd, 1) := dc_iadd (dl_at 384 1 lb_12 rfl)
theorem dL_law_386 : decode cL_law 386 = .ok (.iaload, 1) := dc_iaload (dl_at 384 2 lb_12 rfl)
theorem dL_law_387 : decode cL_law 387 = .ok (.aload_n 0, 1) := dc_aload0 (dl_at 384 3 lb_12 rfl)
theorem dL_law_388 : decode cL_law 388 = .ok (.iload_n 3, 1) := dc_iload3 (dl_at 384 4 lb_12 rfl)
theorem dL_law_389 : decode cL_law 389 = .ok (.iconst 3, 1) := dc_iconst3 (dl_at 384 5 lb_12 rfl)
theorem dL_law_390 : decode cL_law 390 = .ok (.iadd, 1) := dc_iadd (dl_at 384 6 lb_12 rfl)
theorem dL_law_391 : decode cL_law 391 = .ok (.iaload, 1) := dc_iaload (dl_at 384 7 lb_12 rfl)
theorem dL_law_392 : decode cL_law 392 = .ok (.aload_n 0, 1) := dc_aload0 (dl_at 384 8 lb_12 rfl)
theorem dL_law_393 : decode cL_law 393 = .ok (.iload_n 3, 1) := dc_iload3 (dl_at 384 9 lb_12 rfl)
theorem dL_law_394 : decode cL_law 394 = .ok (.iconst 4, 1) := dc_iconst4 (dl_at 384 10 lb_12 rfl)
theorem dL_law_395 : decode cL_law 395 = .ok (.iadd, 1) := dc_iadd (dl_at 384 11 lb_12 rfl)
theorem dL_law_396 : decode cL_law 396 = .ok (.iaload, 1) := dc_iaload (dl_at 384 12 lb_12 rfl)
theorem dL_law_397 : decode cL_law 397 = .ok (.aload_n 0, 1) := dc_aload0 (dl_at 384 13 lb_12 rfl)
theorem dL_law_398 : decode cL_law 398 = .ok (.iload_n 3, 1) := dc_iload3 (dl_at 384 14 lb_12 rfl)
theorem dL_law_399 : decode cL_law 399 = .ok (.iconst 5, 1) := dc_iconst5 (dl_at 384 15 lb_12 rfl)
theorem dL_law_400 : decode cL_law 400 = .ok (.iadd, 1) := dc_iadd (dl_at 384 16 lb_12 rfl)
theorem dL_law_401 : decode cL_law 401 = .ok (.iaload, 1) := dc_iaload (dl_at 384 17 lb_12 rfl)
theorem dL_law_402 : decode cL_law 402 = .ok (.invokevirtual 32, 3) := dc_virt (a := 0) (b := 32) (dl_at 384 18 lb_12 rfl) (dl_at 384 19 lb_12 rfl) (dl_at 384 20 lb_12 rfl)
theorem dL_law_405 : decode cL_law 405 = .ok (.pop, 1) := dc_pop (dl_at 384 21 lb_12 rfl)
theorem dL_law_406 : decode cL_law 406 = .ok (.aload_n 2, 1) := dc_aload2 (dl_at 384 22 lb_12 rfl)
theorem dL_law_407 : decode cL_law 407 = .ok (.aload_n 0, 1) := dc_aload0 (dl_at 384 23 lb_12 rfl)
theorem dL_law_408 : decode cL_law 408 = .ok (.iload_n 3, 1) := dc_iload3 (dl_at 384 24 lb_12 rfl)
theorem dL_law_409 : decode cL_law 409 = .ok (.iconst 1, 1) := dc_iconst1 (dl_at 384 25 lb_12 rfl)
theorem dL_law_410 : decode cL_law 410 = .ok (.iadd, 1) := dc_iadd (dl_at 384 26 lb_12 rfl)
theorem dL_law_411 : decode cL_law 411 = .ok (.iaload, 1) := dc_iaload (dl_at 384 27 lb_12 rfl)
theorem dL_law_412 : decode cL_law 412 = .ok (.aload_n 0, 1) := dc_aload0 (dl_at 384 28 lb_12 rfl)
theorem dL_law_413 : decode cL_law 413 = .ok (.iload_n 3, 1) := dc_iload3 (dl_at 384 29 lb_12 rfl)
theorem dL_law_414 : decode cL_law 414 = .ok (.iconst 2, 1) := dc_iconst2 (dl_at 384 30 lb_12 rfl)
theorem dL_law_415 : decode cL_law 415 = .ok (.iadd, 1) := dc_iadd (dl_at 384 31 lb_12 rfl)
theorem dL_law_416 : decode cL_law 416 = .ok (.iaload, 1) := dc_iaload (dl_at 416 0 lb_13 rfl)
theorem dL_law_417 : decode cL_law 417 = .ok (.aload_n 0, 1) := dc_aload0 (dl_at 416 1 lb_13 rfl)
theorem dL_law_418 : decode cL_law 418 = .ok (.iload_n 3, 1) := dc_iload3 (dl_at 416 2 lb_13 rfl)
theorem dL_law_419 : decode cL_law 419 = .ok (.iconst 3, 1) := dc_iconst3 (dl_at 416 3 lb_13 rfl)
theorem dL_law_420 : decode cL_law 420 = .ok (.iadd, 1) := dc_iadd (dl_at 416 4 lb_13 rfl)
theorem dL_law_421 : decode cL_law 421 = .ok (.iaload, 1) := dc_iaload (dl_at 416 5 lb_13 rfl)
theorem dL_law_422 : decode cL_law 422 = .ok (.aload_n 0, 1) := dc_aload0 (dl_at 416 6 lb_13 rfl)
theorem dL_law_423 : decode cL_law 423 = .ok (.iload_n 3, 1) := dc_iload3 (dl_at 416 7 lb_13 rfl)
theorem dL_law_424 : decode cL_law 424 = .ok (.iconst 4, 1) := dc_iconst4 (dl_at 416 8 lb_13 rfl)
theorem dL_law_425 : decode cL_law 425 = .ok (.iadd, 1) := dc_iadd (dl_at 416 9 lb_13 rfl)
theorem dL_law_426 : decode cL_law 426 = .ok (.iaload, 1) := dc_iaload (dl_at 416 10 lb_13 rfl)
theorem dL_law_427 : decode cL_law 427 = .ok (.aload_n 0, 1) := dc_aload0 (dl_at 416 11 lb_13 rfl)
theorem dL_law_428 : decode cL_law 428 = .ok (.iload_n 3, 1) := dc_iload3 (dl_at 416 12 lb_13 rfl)
theorem dL_law_429 : decode cL_law 429 = .ok (.iconst 5, 1) := dc_iconst5 (dl_at 416 13 lb_13 rfl)
theorem dL_law_430 : decode cL_law 430 = .ok (.iadd, 1) := dc_iadd (dl_at 416 14 lb_13 rfl)
theorem dL_law_431 : decode cL_law 431 = .ok (.iaload, 1) := dc_iaload (dl_at 416 15 lb_13 rfl)
theorem dL_law_432 : decode cL_law 432 = .ok (.invokevirtual 36, 3) := dc_virt (a := 0) (b := 36) (dl_at 416 16 lb_13 rfl) (dl_at 416 17 lb_13 rfl) (dl_at 416 18 lb_13 rfl)
theorem dL_law_435 : decode cL_law 435 = .ok (.pop, 1) := dc_pop (dl_at 416 19 lb_13 rfl)
theorem dL_law_436 : decode cL_law 436 = .ok (.goto 1205, 3) := dc_goto (a := 4) (b := 181) (dl_at 416 20 lb_13 rfl) (dl_at 416 21 lb_13 rfl) (dl_at 416 22 lb_13 rfl) (by decide +kernel)
theorem dL_law_439 : decode cL_law 439 = .ok (.aload_n 1, 1) := dc_aload1 (dl_at 416 23 lb_13 rfl)
theorem dL_law_440 : decode cL_law 440 = .ok (.aload_n 0, 1) := dc_aload0 (dl_at 416 24 lb_13 rfl)
theorem dL_law_441 : decode cL_law 441 = .ok (.iload_n 3, 1) := dc_iload3 (dl_at 416 25 lb_13 rfl)
theorem dL_law_442 : decode cL_law 442 = .ok (.iconst 1, 1) := dc_iconst1 (dl_at 416 26 lb_13 rfl)
theorem dL_law_443 : decode cL_law 443 = .ok (.iadd, 1) := dc_iadd (dl_at 416 27 lb_13 rfl)
theorem dL_law_444 : decode cL_law 444 = .ok (.iaload, 1) := dc_iaload (dl_at 416 28 lb_13 rfl)
theorem dL_law_445 : decode cL_law 445 = .ok (.invokevirtual 37, 3) := dc_virt (a := 0) (b := 37) (dl_at 416 29 lb_13 rfl) (dl_at 416 30 lb_13 rfl) (dl_at 416 31 lb_13 rfl)
theorem dL_law_448 : decode cL_law 448 = .ok (.pop, 1) := dc_pop (dl_at 448 0 lb_14 rfl)
theorem dL_law_449 : decode cL_law 449 = .ok (.aload_n 2, 1) := dc_aload2 (dl_at 448 1 lb_14 rfl)
theorem dL_law_450 : decode cL_law 450 = .ok (.aload_n 0, 1) := dc_aload0 (dl_at 448 2 lb_14 rfl)
theorem dL_law_451 : decode cL_law 451 = .ok (.iload_n 3, 1) := dc_iload3 (dl_at 448 3 lb_14 rfl)
theorem dL_law_452 : decode cL_law 452 = .ok (.iconst 1, 1) := dc_iconst1 (dl_at 448 4 lb_14 rfl)
theorem dL_law_453 : decode cL_law 453 = .ok (.iadd, 1) := dc_iadd (dl_at 448 5 lb_14 rfl)
theorem dL_law_454 : decode cL_law 454 = .ok (.iaload, 1) := dc_iaload (dl_at 448 6 lb_14 rfl)
theorem dL_law_455 : decode cL_law 455 = .ok (.invokevirtual 40, 3) := dc_virt (a := 0) (b := 40) (dl_at 448 7 lb_14 rfl) (dl_at 448 8 lb_14 rfl) (dl_at 448 9 lb_14 rfl)
theorem dL_law_458 : decode cL_law 458 = .ok (.pop, 1) := dc_pop (dl_at 448 10 lb_14 rfl)
theorem dL_law_459 : decode cL_law 459 = .ok (.goto 1182, 3) := dc_goto (a := 4) (b := 158) (dl_at 448 11 lb_14 rfl) (dl_at 448 12 lb_14 rfl) (dl_at 448 13 lb_14 rfl) (by decide +kernel)
theorem dL_law_462 : decode cL_law 462 = .ok (.aload_n 1, 1) := dc_aload1 (dl_at 448 14 lb_14 rfl)
theorem dL_law_463 : decode cL_law 463 = .ok (.aload_n 0, 1) := dc_aload0 (dl_at 448 15 lb_14 rfl)
theorem dL_law_464 : decode cL_law 464 = .ok (.iload_n 3, 1) := dc_iload3 (dl_at 448 16 lb_14 rfl)
theorem dL_law_465 : decode cL_law 465 = .ok (.iconst 1, 1) := dc_iconst1 (dl_at 448 17 lb_14 rfl)
theorem dL_law_466 : decode cL_law 466 = .ok (.iadd, 1) := dc_iadd (dl_at 448 18 lb_14 rfl)
theorem dL_law_467 : decode cL_law 467 = .ok (.iaload, 1) := dc_iaload (dl_at 448 19 lb_14 rfl)
theorem dL_law_468 : decode cL_law 468 = .ok (.aload_n 0, 1) := dc_aload0 (dl_at 448 20 lb_14 rfl)
theorem dL_law_469 : decode cL_law 469 = .ok (.iload_n 3, 1) := dc_iload3 (dl_at 448 21 lb_14 rfl)
theorem dL_law_470 : decode cL_law 470 = .ok (.iconst 2, 1) := dc_iconst2 (dl_at 448 22 lb_14 rfl)
theorem dL_law_471 : decode cL_law 471 = .ok (.iadd, 1) := dc_iadd (dl_at 448 23 lb_14 rfl)
theorem dL_law_472 : decode cL_law 472 = .ok (.iaload, 1) := dc_iaload (dl_at 448 24 lb_14 rfl)
theorem dL_law_473 : decode cL_law 473 = .ok (.invokevirtual 41, 3) := dc_virt (a := 0) (b := 41) (dl_at 448 25 lb_14 rfl) (dl_at 448 26 lb_14 rfl) (dl_at 448 27 lb_14 rfl)
theorem dL_law_476 : decode cL_law 476 = .ok (.pop, 1) := dc_pop (dl_at 448 28 lb_14 rfl)
theorem dL_law_477 : decode cL_law 477 = .ok (.aload_n 2, 1) := dc_aload2 (dl_at 448 29 lb_14 rfl)
theorem dL_law_478 : decode cL_law 478 = .ok (.aload_n 0, 1) := dc_aload0 (dl_at 448 30 lb_14 rfl)
theorem dL_law_479 : decode cL_law 479 = .ok (.iload_n 3, 1) := dc_iload3 (dl_at 448 31 lb_14 rfl)
theorem dL_law_480 : decode cL_law 480 = .ok (.iconst 1, 1) := dc_iconst1 (dl_at 480 0 lb_15 rfl)
theorem dL_law_481 : decode cL_law 481 = .ok (.iadd, 1) := dc_iadd (dl_at 480 1 lb_15 rfl)
theorem dL_law_482 : decode cL_law 482 = .ok (.iaload, 1) := dc_iaload (dl_at 480 2 lb_15 rfl)
theorem dL_law_483 : decode cL_law 483 = .ok (.aload_n 0, 1) := dc_aload0 (dl_at 480 3 lb_15 rfl)
theorem dL_law_484 : decode cL_law 484 = .ok (.iload_n 3, 1) := dc_iload3 (dl_at 480 4 lb_15 rfl)
theorem dL_law_485 : decode cL_law 485 = .ok (.iconst 2, 1) := dc_iconst2 (dl_at 480 5 lb_15 rfl)
theorem dL_law_486 : decode cL_law 486 = .ok (.iadd, 1) := dc_iadd (dl_at 480 6 lb_15 rfl)
theorem dL_law_487 : decode cL_law 487 = .ok (.iaload, 1) := dc_iaload (dl_at 480 7 lb_15 rfl)
theorem dL_law_488 : decode cL_law 488 = .ok (.invokevirtual 44, 3) := dc_virt (a := 0) (b := 44) (dl_at 480 8 lb_15 rfl) (dl_at 480 9 lb_15 rfl) (dl_at 480 10 lb_15 rfl)
theorem dL_law_491 : decode cL_law 491 = .ok (.pop, 1) := dc_pop (dl_at 480 11 lb_15 rfl)
theorem dL_law_492 : decode cL_law 492 = .ok (.goto 1149, 3) := dc_goto (a := 4) (b := 125) (dl_at 480 12 lb_15 rfl) (dl_at 480 13 lb_15 rfl) (dl_at 480 14 lb_15 rfl) (by decide +kernel)
theorem dL_law_495 : decode cL_law 495 = .ok (.aload_n 1, 1) := dc_aload1 (dl_at 480 15 lb_15 rfl)
theorem dL_law_496 : decode cL_law 496 = .ok (.aload_n 0, 1) := dc_aload0 (dl_at 480 16 lb_15 rfl)
theorem dL_law_497 : decode cL_law 497 = .ok (.iload_n 3, 1) := dc_iload3 (dl_at 480 17 lb_15 rfl)
theorem dL_law_498 : decode cL_law 498 = .ok (.iconst 1, 1) := dc_iconst1 (dl_at 480 18 lb_15 rfl)
theorem dL_law_499 : decode cL_law 499 = .ok (.iadd, 1) := dc_iadd (dl_at 480 19 lb_15 rfl)
theorem dL_law_500 : decode cL_law 500 = .ok (.iaload, 1) := dc_iaload (dl_at 480 20 lb_15 rfl)
theorem dL_law_501 : decode cL_law 501 = .ok (.aload_n 0, 1) := dc_aload0 (dl_at 480 21 lb_15 rfl)
theorem dL_law_502 : decode cL_law 502 = .ok (.iload_n 3, 1) := dc_iload3 (dl_at 480 22 lb_15 rfl)
theorem dL_law_503 : decode cL_law 503 = .ok (.iconst 2, 1) := dc_iconst2 (dl_at 480 23 lb_15 rfl)
theorem dL_law_504 : decode cL_law 504 = .ok (.iadd, 1) := dc_iadd (dl_at 480 24 lb_15 rfl)
theorem dL_law_505 : decode cL_law 505 = .ok (.iaload, 1) := dc_iaload (dl_at 480 25 lb_15 rfl)
theorem dL_law_506 : decode cL_law 506 = .ok (.aload_n 0, 1) := dc_aload0 (dl_at 480 26 lb_15 rfl)
theorem dL_law_507 : decode cL_law 507 = .ok (.iload_n 3, 1) := dc_iload3 (dl_at 480 27 lb_15 rfl)
theorem dL_law_508 : decode cL_law 508 = .ok (.iconst 3, 1) := dc_iconst3 (dl_at 480 28 lb_15 rfl)
theorem dL_law_509 : decode cL_law 509 = .ok (.iadd, 1) := dc_iadd (dl_at 480 29 lb_15 rfl)
theorem dL_law_510 : decode cL_law 510 = .ok (.iaload, 1) := dc_iaload (dl_at 480 30 lb_15 rfl)
theorem dL_law_511 : decode cL_law 511 = .ok (.invokevirtual 45, 3) := dc_virt (a := 0) (b := 45) (dl_at 480 31 lb_15 rfl) (dl_at 512 0 lb_16 rfl) (dl_at 512 1 lb_16 rfl)
theorem dL_law_514 : decode cL_law 514 = .ok (.pop, 1) := dc_pop (dl_at 512 2 lb_16 rfl)
theorem dL_law_515 : decode cL_law 515 = .ok (.aload_n 2, 1) := dc_aload2 (dl_at 512 3 lb_16 rfl)
theorem dL_law_516 : decode cL_law 516 = .ok (.aload_n 0, 1) := dc_aload0 (dl_at 512 4 lb_16 rfl)
theorem dL_law_517 : decode cL_law 517 = .ok (.iload_n 3, 1) := dc_iload3 (dl_at 512 5 lb_16 rfl)
theorem dL_law_518 : decode cL_law 518 = .ok (.iconst 1, 1) := dc_iconst1 (dl_at 512 6 lb_16 rfl)
theorem dL_law_519 : decode cL_law 519 = .ok (.iadd, 1) := dc_iadd (dl_at 512 7 lb_16 rfl)
theorem dL_law_520 : decode cL_law 520 = .ok (.iaload, 1) := dc_iaload (dl_at 512 8 lb_16 rfl)
theorem dL_law_521 : decode cL_law 521 = .ok (.aload_n 0, 1) := dc_aload0 (dl_at 512 9 lb_16 rfl)
theorem dL_law_522 : decode cL_law 522 = .ok (.iload_n 3, 1) := dc_iload3 (dl_at 512 10 lb_16 rfl)
theorem dL_law_523 : decode cL_law 523 = .ok (.iconst 2, 1) := dc_iconst2 (dl_at 512 11 lb_16 rfl)
theorem dL_law_524 : decode cL_law 524 = .ok (.iadd, 1) := dc_iadd (dl_at 512 12 lb_16 rfl)
theorem dL_law_525 : decode cL_law 525 = .ok (.iaload, 1) := dc_iaload (dl_at 512 13 lb_16 rfl)
theorem dL_law_526 : decode cL_law 526 = .ok (.aload_n 0, 1) := dc_aload0 (dl_at 512 14 lb_16 rfl)
theorem dL_law_527 : decode cL_law 527 = .ok (.iload_n 3, 1) := dc_iload3 (dl_at 512 15 lb_16 rfl)
theorem dL_law_528 : decode cL_law 528 = .ok (.iconst 3, 1) := dc_iconst3 (dl_at 512 16 lb_16 rfl)
theorem dL_law_529 : decode cL_law 529 = .ok (.iadd, 1) := dc_iadd (dl_at 512 17 lb_16 rfl)
theorem dL_law_530 : decode cL_law 530 = .ok (.iaload, 1) := dc_iaload (dl_at 512 18 lb_16 rfl)
theorem dL_law_531 : decode cL_law 531 = .ok (.invokevirtual 48, 3) := dc_virt (a := 0) (b := 48) (dl_at 512 19 lb_16 rfl) (dl_at 512 20 lb_16 rfl) (dl_at 512 21 lb_16 rfl)
theorem dL_law_534 : decode cL_law 534 = .ok (.pop, 1) := dc_pop (dl_at 512 22 lb_16 rfl)
theorem dL_law_535 : decode cL_law 535 = .ok (.goto 1106, 3) := dc_goto (a := 4) (b := 82) (dl_at 512 23 lb_16 rfl) (dl_at 512 24 lb_16 rfl) (dl_at 512 25 lb_16 rfl) (by decide +kernel)
theorem dL_law_538 : decode cL_law 538 = .ok (.aload_n 1, 1) := dc_aload1 (dl_at 512 26 lb_16 rfl)
theorem dL_law_539 : decode cL_law 539 = .ok (.aload_n 0, 1) := dc_aload0 (dl_at 512 27 lb_16 rfl)
theorem dL_law_540 : decode cL_law 540 = .ok (.iload_n 3, 1) := dc_iload3 (dl_at 512 28 lb_16 rfl)
theorem dL_law_541 : decode cL_law 541 = .ok (.iconst 1, 1) := dc_iconst1 (dl_at 512 29 lb_16 rfl)
theorem dL_law_542 : decode cL_law 542 = .ok (.iadd, 1) := dc_iadd (dl_at 512 30 lb_16 rfl)
theorem dL_law_543 : decode cL_law 543 = .ok (.iaload, 1) := dc_iaload (dl_at 512 31 lb_16 rfl)
theorem dL_law_544 : decode cL_law 544 = .ok (.invokevirtual 49, 3) := dc_virt (a := 0) (b := 49) (dl_at 544 0 lb_17 rfl) (dl_at 544 1 lb_17 rfl) (dl_at 544 2 lb_17 rfl)
theorem dL_law_547 : decode cL_law 547 = .ok (.pop, 1) := dc_pop (dl_at 544 3 lb_17 rfl)
theorem dL_law_548 : decode cL_law 548 = .ok (.aload_n 2, 1) := dc_aload2 (dl_at 544 4 lb_17 rfl)
theorem dL_law_549 : decode cL_law 549 = .ok (.aload_n 0, 1) := dc_aload0 (dl_at 544 5 lb_17 rfl)
theorem dL_law_550 : decode cL_law 550 = .ok (.iload_n 3, 1) := dc_iload3 (dl_at 544 6 lb_17 rfl)
theorem dL_law_551 : decode cL_law 551 = .ok (.iconst 1, 1) := dc_iconst1 (dl_at 544 7 lb_17 rfl)
theorem dL_law_552 : decode cL_law 552 = .ok (.iadd, 1) := dc_iadd (dl_at 544 8 lb_17 rfl)
theorem dL_law_553 : decode cL_law 553 = .ok (.iaload, 1) := dc_iaload (dl_at 544 9 lb_17 rfl)
theorem dL_law_554 : decode cL_law 554 = .ok (.invokevirtual 52, 3) := dc_virt (a := 0) (b := 52) (dl_at 544 10 lb_17 rfl) (dl_at 544 11 lb_17 rfl) (dl_at 544 12 lb_17 rfl)
theorem dL_law_557 : decode cL_law 557 = .ok (.pop, 1) := dc_pop (dl_at 544 13 lb_17 rfl)
theorem dL_law_558 : decode cL_law 558 = .ok (.goto 1083, 3) := dc_goto (a := 4) (b := 59) (dl_at 544 14 lb_17 rfl) (dl_at 544 15 lb_17 rfl) (dl_at 544 16 lb_17 rfl) (by decide +kernel)
theorem dL_law_561 : decode cL_law 561 = .ok (.aload_n 1, 1) := dc_aload1 (dl_at 544 17 lb_17 rfl)
theorem dL_law_562 : decode cL_law 562 = .ok (.aload_n 0, 1) := dc_aload0 (dl_at 544 18 lb_17 rfl)
theorem dL_law_563 : decode cL_law 563 = .ok (.iload_n 3, 1) := dc_iload3 (dl_at 544 19 lb_17 rfl)
theorem dL_law_564 : decode cL_law 564 = .ok (.iconst 1, 1) := dc_iconst1 (dl_at 544 20 lb_17 rfl)
theorem dL_law_565 : decode cL_law 565 = .ok (.iadd, 1) := dc_iadd (dl_at 544 21 lb_17 rfl)
theorem dL_law_566 : decode cL_law 566 = .ok (.iaload, 1) := dc_iaload (dl_at 544 22 lb_17 rfl)
theorem dL_law_567 : decode cL_law 567 = .ok (.invokevirtual 53, 3) := dc_virt (a := 0) (b := 53) (dl_at 544 23 lb_17 rfl) (dl_at 544 24 lb_17 rfl) (dl_at 544 25 lb_17 rfl)
theorem dL_law_570 : decode cL_law 570 = .ok (.pop, 1) := dc_pop (dl_at 544 26 lb_17 rfl)
theorem dL_law_571 : decode cL_law 571 = .ok (.aload_n 2, 1) := dc_aload2 (dl_at 544 27 lb_17 rfl)
theorem dL_law_572 : decode cL_law 572 = .ok (.aload_n 0, 1) := dc_aload0 (dl_at 544 28 lb_17 rfl)
theorem dL_law_573 : decode cL_law 573 = .ok (.iload_n 3, 1) := dc_iload3 (dl_at 544 29 lb_17 rfl)
theorem dL_law_574 : decode cL_law 574 = .ok (.iconst 1, 1) := dc_iconst1 (dl_at 544 30 lb_17 rfl)
theorem dL_law_575 : decode cL_law 575 = .ok (.iadd, 1) := dc_iadd (dl_at 544 31 lb_17 rfl)
theorem dL_law_576 : decode cL_law 576 = .ok (.iaload, 1) := dc_iaload (dl_at 576 0 lb_18 rfl)
theorem dL_law_577 : decode cL_law 577 = .ok (.invokevirtual 56, 3) := dc_virt (a := 0) (b := 56) (dl_at 576 1 lb_18 rfl) (dl_at 576 2 lb_18 rfl) (dl_at 576 3 lb_18 rfl)
theorem dL_law_580 : decode cL_law 580 = .ok (.pop, 1) := dc_pop (dl_at 576 4 lb_18 rfl)
theorem dL_law_581 : decode cL_law 581 = .ok (.goto 1060, 3) := dc_goto (a := 4) (b := 36) (dl_at 576 5 lb_18 rfl) (dl_at 576 6 lb_18 rfl) (dl_at 576 7 lb_18 rfl) (by decide +kernel)
theorem dL_law_584 : decode cL_law 584 = .ok (.aload_n 1, 1) := dc_aload1 (dl_at 576 8 lb_18 rfl)
theorem dL_law_585 : decode cL_law 585 = .ok (.aload_n 0, 1) := dc_aload0 (dl_at 576 9 lb_18 rfl)
theorem dL_law_586 : decode cL_law 586 = .ok (.iload_n 3, 1) := dc_iload3 (dl_at 576 10 lb_18 rfl)
theorem dL_law_587 : decode cL_law 587 = .ok (.iconst 1, 1) := dc_iconst1 (dl_at 576 11 lb_18 rfl)
theorem dL_law_588 : decode cL_law 588 = .ok (.iadd, 1) := dc_iadd (dl_at 576 12 lb_18 rfl)
theorem dL_law_589 : decode cL_law 589 = .ok (.iaload, 1) := dc_iaload (dl_at 576 13 lb_18 rfl)
theorem dL_law_590 : decode cL_law 590 = .ok (.aload_n 0, 1) := dc_aload0 (dl_at 576 14 lb_18 rfl)
theorem dL_law_591 : decode cL_law 591 = .ok (.iload_n 3, 1) := dc_iload3 (dl_at 576 15 lb_18 rfl)
theorem dL_law_592 : decode cL_law 592 = .ok (.iconst 2, 1) := dc_iconst2 (dl_at 576 16 lb_18 rfl)
theorem dL_law_593 : decode cL_law 593 = .ok (.iadd, 1) := dc_iadd (dl_at 576 17 lb_18 rfl)
theorem dL_law_594 : decode cL_law 594 = .ok (.iaload, 1) := dc_iaload (dl_at 576 18 lb_18 rfl)
theorem dL_law_595 : decode cL_law 595 = .ok (.invokevirtual 57, 3) := dc_virt (a := 0) (b := 57) (dl_at 576 19 lb_18 rfl) (dl_at 576 20 lb_18 rfl) (dl_at 576 21 lb_18 rfl)
theorem dL_law_598 : decode cL_law 598 = .ok (.pop, 1) := dc_pop (dl_at 576 22 lb_18 rfl)
theorem dL_law_599 : decode cL_law 599 = .ok (.aload_n 2, 1) := dc_aload2 (dl_at 576 23 lb_18 rfl)
theorem dL_law_600 : decode cL_law 600 = .ok (.aload_n 0, 1) := dc_aload0 (dl_at 576 24 lb_18 rfl)
theorem dL_law_601 : decode cL_law 601 = .ok (.iload_n 3, 1) := dc_iload3 (dl_at 576 25 lb_18 rfl)
theorem dL_law_602 : decode cL_law 602 = .ok (.iconst 1, 1) := dc_iconst1 (dl_at 576 26 lb_18 rfl)
theorem dL_law_603 : decode cL_law 603 = .ok (.iadd, 1) := dc_iadd (dl_at 576 27 lb_18 rfl)
theorem dL_law_604 : decode cL_law 604 = .ok (.iaload, 1) := dc_iaload (dl_at 576 28 lb_18 rfl)
theorem dL_law_605 : decode cL_law 605 = .ok (.aload_n 0, 1) := dc_aload0 (dl_at 576 29 lb_18 rfl)
theorem dL_law_606 : decode cL_law 606 = .ok (.iload_n 3, 1) := dc_iload3 (dl_at 576 30 lb_18 rfl)
theorem dL_law_607 : decode cL_law 607 = .ok (.iconst 2, 1) := dc_iconst2 (dl_at 576 31 lb_18 rfl)
theorem dL_law_608 : decode cL_law 608 = .ok (.iadd, 1) := dc_iadd (dl_at 608 0 lb_19 rfl)
theorem dL_law_609 : decode cL_law 609 = .ok (.iaload, 1) := dc_iaload (dl_at 608 1 lb_19 rfl)
theorem dL_law_610 : decode cL_law 610 = .ok (.invokevirtual 60, 3) := dc_virt (a := 0) (b := 60) (dl_at 608 2 lb_19 rfl) (dl_at 608 3 lb_19 rfl) (dl_at 608 4 lb_19 rfl)
theorem dL_law_613 : decode cL_law 613 = .ok (.pop, 1) := dc_pop (dl_at 608 5 lb_19 rfl)
theorem dL_law_614 : decode cL_law 614 = .ok (.goto 1027, 3) := dc_goto (a := 4) (b := 3) (dl_at 608 6 lb_19 rfl) (dl_at 608 7 lb_19 rfl) (dl_at 608 8 lb_19 rfl) (by decide +kernel)
theorem dL_law_617 : decode cL_law 617 = .ok (.aload_n 1, 1) := dc_aload1 (dl_at 608 9 lb_19 rfl)
theorem dL_law_618 : decode cL_law 618 = .ok (.aload_n 0, 1) := dc_aload0 (dl_at 608 10 lb_19 rfl)
theorem dL_law_619 : decode cL_law 619 = .ok (.iload_n 3, 1) := dc_iload3 (dl_at 608 11 lb_19 rfl)
theorem dL_law_620 : decode cL_law 620 = .ok (.iconst 1, 1) := dc_iconst1 (dl_at 608 12 lb_19 rfl)
theorem dL_law_621 : decode cL_law 621 = .ok (.iadd, 1) := dc_iadd (dl_at 608 13 lb_19 rfl)
theorem dL_law_622 : decode cL_law 622 = .ok (.iaload, 1) := dc_iaload (dl_at 608 14 lb_19 rfl)
theorem dL_law_623 : decode cL_law 623 = .ok (.aload_n 0, 1) := dc_aload0 (dl_at 608 15 lb_19 rfl)
theorem dL_law_624 : decode cL_law 624 = .ok (.iload_n 3, 1) := dc_iload3 (dl_at 608 16 lb_19 rfl)
theorem dL_law_625 : decode cL_law 625 = .ok (.iconst 2, 1) := dc_iconst2 (dl_at 608 17 lb_19 rfl)
theorem dL_law_626 : decode cL_law 626 = .ok (.iadd, 1) := dc_iadd (dl_at 608 18 lb_19 rfl)
theorem dL_law_627 : decode cL_law 627 = .ok (.iaload, 1) := dc_iaload (dl_at 608 19 lb_19 rfl)
theorem dL_law_628 : decode cL_law 628 = .ok (.invokevirtual 61, 3) := dc_virt (a := 0) (b := 61) (dl_at 608 20 lb_19 rfl) (dl_at 608 21 lb_19 rfl) (dl_at 608 22 lb_19 rfl)
theorem dL_law_631 : decode cL_law 631 = .ok (.pop, 1) := dc_pop (dl_at 608 23 lb_19 rfl)
theorem dL_law_632 : decode cL_law 632 = .ok (.aload_n 2, 1) := dc_aload2 (dl_at 608 24 lb_19 rfl)
theorem dL_law_633 : decode cL_law 633 = .ok (.aload_n 0, 1) := dc_aload0 (dl_at 608 25 lb_19 rfl)
theorem dL_law_634 : decode cL_law 634 = .ok (.iload_n 3, 1) := dc_iload3 (dl_at 608 26 lb_19 rfl)
theorem dL_law_635 : decode cL_law 635 = .ok (.iconst 1, 1) := dc_iconst1 (dl_at 608 27 lb_19 rfl)
theorem dL_law_636 : decode cL_law 636 = .ok (.iadd, 1) := dc_iadd (dl_at 608 28 lb_19 rfl)
theorem dL_law_637 : decode cL_law 637 = .ok (.iaload, 1) := dc_iaload (dl_at 608 29 lb_19 rfl)
theorem dL_law_638 : decode cL_law 638 = .ok (.aload_n 0, 1) := dc_aload0 (dl_at 608 30 lb_19 rfl)
theorem dL_law_639 : decode cL_law 639 = .ok (.iload_n 3, 1) := dc_iload3 (dl_at 608 31 lb_19 rfl)
theorem dL_law_640 : decode cL_law 640 = .ok (.iconst 2, 1) := dc_iconst2 (dl_at 640 0 lb_20 rfl)
theorem dL_law_641 : decode cL_law 641 = .ok (.iadd, 1) := dc_iadd (dl_at 640 1 lb_20 rfl)
theorem dL_law_642 : decode cL_law 642 = .ok (.iaload, 1) := dc_iaload (dl_at 640 2 lb_20 rfl)
theorem dL_law_643 : decode cL_law 643 = .ok (.invokevirtual 64, 3) := dc_virt (a := 0) (b := 64) (dl_at 640 3 lb_20 rfl) (dl_at 640 4 lb_20 rfl) (dl_at 640 5 lb_20 rfl)
theorem dL_law_646 : decode cL_law 646 = .ok (.pop, 1) := dc_pop (dl_at 640 6 lb_20 rfl)
theorem dL_law_647 : decode cL_law 647 = .ok (.goto 994, 3) := dc_goto (a := 3) (b := 226) (dl_at 640 7 lb_20 rfl) (dl_at 640 8 lb_20 rfl) (dl_at 640 9 lb_20 rfl) (by decide +kernel)
theorem dL_law_650 : decode cL_law 650 = .ok (.aload_n 1, 1) := dc_aload1 (dl_at 640 10 lb_20 rfl)
theorem dL_law_651 : decode cL_law 651 = .ok (.aload_n 0, 1) := dc_aload0 (dl_at 640 11 lb_20 rfl)
theorem dL_law_652 : decode cL_law 652 = .ok (.iload_n 3, 1) := dc_iload3 (dl_at 640 12 lb_20 rfl)
theorem dL_law_653 : decode cL_law 653 = .ok (.iconst 1, 1) := dc_iconst1 (dl_at 640 13 lb_20 rfl)
theorem dL_law_654 : decode cL_law 654 = .ok (.iadd, 1) := dc_iadd (dl_at 640 14 lb_20 rfl)
theorem dL_law_655 : decode cL_law 655 = .ok (.iaload, 1) := dc_iaload (dl_at 640 15 lb_20 rfl)
theorem dL_law_656 : decode cL_law 656 = .ok (.aload_n 0, 1) := dc_aload0 (dl_at 640 16 lb_20 rfl)
theorem dL_law_657 : decode cL_law 657 = .ok (.iload_n 3, 1) := dc_iload3 (dl_at 640 17 lb_20 rfl)
theorem dL_law_658 : decode cL_law 658 = .ok (.iconst 2, 1) := dc_iconst2 (dl_at 640 18 lb_20 rfl)
theorem dL_law_659 : decode cL_law 659 = .ok (.iadd, 1) := dc_iadd (dl_at 640 19 lb_20 rfl)
theorem dL_law_660 : decode cL_law 660 = .ok (.iaload, 1) := dc_iaload (dl_at 640 20 lb_20 rfl)
theorem dL_law_661 : decode cL_law 661 = .ok (.invokevirtual 65, 3) := dc_virt (a := 0) (b := 65) (dl_at 640 21 lb_20 rfl) (dl_at 640 22 lb_20 rfl) (dl_at 640 23 lb_20 rfl)
theorem dL_law_664 : decode cL_law 664 = .ok (.pop, 1) := dc_pop (dl_at 640 24 lb_20 rfl)
theorem dL_law_665 : decode cL_law 665 = .ok (.aload_n 2, 1) := dc_aload2 (dl_at 640 25 lb_20 rfl)
theorem dL_law_666 : decode cL_law 666 = .ok (.aload_n 0, 1) := dc_aload0 (dl_at 640 26 lb_20 rfl)
theorem dL_law_667 : decode cL_law 667 = .ok (.iload_n 3, 1) := dc_iload3 (dl_at 640 27 lb_20 rfl)
theorem dL_law_668 : decode cL_law 668 = .ok (.iconst 1, 1) := dc_iconst1 (dl_at 640 28 lb_20 rfl)
theorem dL_law_669 : decode cL_law 669 = .ok (.iadd, 1) := dc_iadd (dl_at 640 29 lb_20 rfl)
theorem dL_law_670 : decode cL_law 670 = .ok (.iaload, 1) := dc_iaload (dl_at 640 30 lb_20 rfl)
theorem dL_law_671 : decode cL_law 671 = .ok (.aload_n 0, 1) := dc_aload0 (dl_at 640 31 lb_20 rfl)
theorem dL_law_672 : decode cL_law 672 = .ok (.iload_n 3, 1) := dc_iload3 (dl_at 672 0 lb_21 rfl)
theorem dL_law_673 : decode cL_law 673 = .ok (.iconst 2, 1) := dc_iconst2 (dl_at 672 1 lb_21 rfl)
theorem dL_law_674 : decode cL_law 674 = .ok (.iadd, 1) := dc_iadd (dl_at 672 2 lb_21 rfl)
theorem dL_law_675 : decode cL_law 675 = .ok (.iaload, 1) := dc_iaload (dl_at 672 3 lb_21 rfl)
theorem dL_law_676 : decode cL_law 676 = .ok (.invokevirtual 68, 3) := dc_virt (a := 0) (b := 68) (dl_at 672 4 lb_21 rfl) (dl_at 672 5 lb_21 rfl) (dl_at 672 6 lb_21 rfl)
theorem dL_law_679 : decode cL_law 679 = .ok (.pop, 1) := dc_pop (dl_at 672 7 lb_21 rfl)
theorem dL_law_680 : decode cL_law 680 = .ok (.goto 961, 3) := dc_goto (a := 3) (b := 193) (dl_at 672 8 lb_21 rfl) (dl_at 672 9 lb_21 rfl) (dl_at 672 10 lb_21 rfl) (by decide +kernel)
