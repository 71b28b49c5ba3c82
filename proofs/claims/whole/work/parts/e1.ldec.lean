abbrev cL_law : ByteArray := code
theorem DL_law_0 : decs cL_law [(0, .new 8, 3), (3, .dup, 1), (4, .invokespecial 19, 3), (7, .astore_n 1, 1), (8, .new 20, 3), (11, .dup, 1), (12, .invokespecial 22, 3), (15, .astore_n 2, 1), (16, .iconst 1, 1), (17, .newarray .long, 2), (19, .astore_n 3, 1), (20, .iconst 0, 1), (21, .istore 4, 2), (23, .iload 4, 2), (25, .aload_n 0, 1), (26, .arraylength, 1), (27, .bipush 6, 2), (29, .isub, 1), (30, .if_icmp .gt 1080, 3), (33, .aload_n 0, 1), (34, .iload 4, 2), (36, .iaload, 1), (37, .bipush 31, 2), (39, .iand, 1)] := by unfold decs; decide +kernel
theorem dL_law_0 : decode cL_law 0 = .ok (.new 8, 3) := decs_at DL_law_0 0 rfl
theorem dL_law_3 : decode cL_law 3 = .ok (.dup, 1) := decs_at DL_law_0 1 rfl
theorem dL_law_4 : decode cL_law 4 = .ok (.invokespecial 19, 3) := decs_at DL_law_0 2 rfl
theorem dL_law_7 : decode cL_law 7 = .ok (.astore_n 1, 1) := decs_at DL_law_0 3 rfl
theorem dL_law_8 : decode cL_law 8 = .ok (.new 20, 3) := decs_at DL_law_0 4 rfl
theorem dL_law_11 : decode cL_law 11 = .ok (.dup, 1) := decs_at DL_law_0 5 rfl
theorem dL_law_12 : decode cL_law 12 = .ok (.invokespecial 22, 3) := decs_at DL_law_0 6 rfl
theorem dL_law_15 : decode cL_law 15 = .ok (.astore_n 2, 1) := decs_at DL_law_0 7 rfl
theorem dL_law_16 : decode cL_law 16 = .ok (.iconst 1, 1) := decs_at DL_law_0 8 rfl
theorem dL_law_17 : decode cL_law 17 = .ok (.newarray .long, 2) := decs_at DL_law_0 9 rfl
theorem dL_law_19 : decode cL_law 19 = .ok (.astore_n 3, 1) := decs_at DL_law_0 10 rfl
theorem dL_law_20 : decode cL_law 20 = .ok (.iconst 0, 1) := decs_at DL_law_0 11 rfl
theorem dL_law_21 : decode cL_law 21 = .ok (.istore 4, 2) := decs_at DL_law_0 12 rfl
theorem dL_law_23 : decode cL_law 23 = .ok (.iload 4, 2) := decs_at DL_law_0 13 rfl
theorem dL_law_25 : decode cL_law 25 = .ok (.aload_n 0, 1) := decs_at DL_law_0 14 rfl
theorem dL_law_26 : decode cL_law 26 = .ok (.arraylength, 1) := decs_at DL_law_0 15 rfl
theorem dL_law_27 : decode cL_law 27 = .ok (.bipush 6, 2) := decs_at DL_law_0 16 rfl
theorem dL_law_29 : decode cL_law 29 = .ok (.isub, 1) := decs_at DL_law_0 17 rfl
theorem dL_law_30 : decode cL_law 30 = .ok (.if_icmp .gt 1080, 3) := decs_at DL_law_0 18 rfl
theorem dL_law_33 : decode cL_law 33 = .ok (.aload_n 0, 1) := decs_at DL_law_0 19 rfl
theorem dL_law_34 : decode cL_law 34 = .ok (.iload 4, 2) := decs_at DL_law_0 20 rfl
theorem dL_law_36 : decode cL_law 36 = .ok (.iaload, 1) := decs_at DL_law_0 21 rfl
theorem dL_law_37 : decode cL_law 37 = .ok (.bipush 31, 2) := decs_at DL_law_0 22 rfl
theorem dL_law_39 : decode cL_law 39 = .ok (.iand, 1) := decs_at DL_law_0 23 rfl
theorem DL_law_24 : decs cL_law [(40, .tableswitch 1064 0 25 #[120, 193, 218, 231, 244, 257, 325, 405, 430, 443, 492, 517, 578, 651, 712, 737, 798, 835, 860, 885, 910, 951, 976, 1001, 1026, 1039], 120), (160, .aload_n 1, 1), (161, .aload_n 0, 1), (162, .iload 4, 2), (164, .iconst 1, 1), (165, .iadd, 1), (166, .iaload, 1), (167, .aload_n 0, 1), (168, .iload 4, 2), (170, .iconst 2, 1), (171, .iadd, 1), (172, .iaload, 1), (173, .aload_n 0, 1), (174, .iload 4, 2), (176, .iconst 3, 1), (177, .iadd, 1), (178, .iaload, 1), (179, .aload_n 0, 1), (180, .iload 4, 2), (182, .iconst 4, 1), (183, .iadd, 1), (184, .iaload, 1), (185, .aload_n 0, 1), (186, .iload 4, 2)] := by unfold decs; decide +kernel
theorem dL_law_40 : decode cL_law 40 = .ok (.tableswitch 1064 0 25 #[120, 193, 218, 231, 244, 257, 325, 405, 430, 443, 492, 517, 578, 651, 712, 737, 798, 835, 860, 885, 910, 951, 976, 1001, 1026, 1039], 120) := decs_at DL_law_24 0 rfl
theorem dL_law_160 : decode cL_law 160 = .ok (.aload_n 1, 1) := decs_at DL_law_24 1 rfl
theorem dL_law_161 : decode cL_law 161 = .ok (.aload_n 0, 1) := decs_at DL_law_24 2 rfl
theorem dL_law_162 : decode cL_law 162 = .ok (.iload 4, 2) := decs_at DL_law_24 3 rfl
theorem dL_law_164 : decode cL_law 164 = .ok (.iconst 1, 1) := decs_at DL_law_24 4 rfl
theorem dL_law_165 : decode cL_law 165 = .ok (.iadd, 1) := decs_at DL_law_24 5 rfl
theorem dL_law_166 : decode cL_law 166 = .ok (.iaload, 1) := decs_at DL_law_24 6 rfl
theorem dL_law_167 : decode cL_law 167 = .ok (.aload_n 0, 1) := decs_at DL_law_24 7 rfl
theorem dL_law_168 : decode cL_law 168 = .ok (.iload 4, 2) := decs_at DL_law_24 8 rfl
theorem dL_law_170 : decode cL_law 170 = .ok (.iconst 2, 1) := decs_at DL_law_24 9 rfl
theorem dL_law_171 : decode cL_law 171 = .ok (.iadd, 1) := decs_at DL_law_24 10 rfl
theorem dL_law_172 : decode cL_law 172 = .ok (.iaload, 1) := decs_at DL_law_24 11 rfl
theorem dL_law_173 : decode cL_law 173 = .ok (.aload_n 0, 1) := decs_at DL_law_24 12 rfl
theorem dL_law_174 : decode cL_law 174 = .ok (.iload 4, 2) := decs_at DL_law_24 13 rfl
theorem dL_law_176 : decode cL_law 176 = .ok (.iconst 3, 1) := decs_at DL_law_24 14 rfl
theorem dL_law_177 : decode cL_law 177 = .ok (.iadd, 1) := decs_at DL_law_24 15 rfl
theorem dL_law_178 : decode cL_law 178 = .ok (.iaload, 1) := decs_at DL_law_24 16 rfl
theorem dL_law_179 : decode cL_law 179 = .ok (.aload_n 0, 1) := decs_at DL_law_24 17 rfl
theorem dL_law_180 : decode cL_law 180 = .ok (.iload 4, 2) := decs_at DL_law_24 18 rfl
theorem dL_law_182 : decode cL_law 182 = .ok (.iconst 4, 1) := decs_at DL_law_24 19 rfl
theorem dL_law_183 : decode cL_law 183 = .ok (.iadd, 1) := decs_at DL_law_24 20 rfl
theorem dL_law_184 : decode cL_law 184 = .ok (.iaload, 1) := decs_at DL_law_24 21 rfl
theorem dL_law_185 : decode cL_law 185 = .ok (.aload_n 0, 1) := decs_at DL_law_24 22 rfl
theorem dL_law_186 : decode cL_law 186 = .ok (.iload 4, 2) := decs_at DL_law_24 23 rfl
theorem DL_law_48 : decs cL_law [(188, .iconst 5, 1), (189, .iadd, 1), (190, .iaload, 1), (191, .invokevirtual 23, 3), (194, .aload_n 2, 1), (195, .aload_n 0, 1), (196, .iload 4, 2), (198, .iconst 1, 1), (199, .iadd, 1), (200, .iaload, 1), (201, .aload_n 0, 1), (202, .iload 4, 2), (204, .iconst 2, 1), (205, .iadd, 1), (206, .iaload, 1), (207, .aload_n 0, 1), (208, .iload 4, 2), (210, .iconst 3, 1), (211, .iadd, 1), (212, .iaload, 1), (213, .aload_n 0, 1), (214, .iload 4, 2), (216, .iconst 4, 1), (217, .iadd, 1)] := by unfold decs; decide +kernel
theorem dL_law_188 : decode cL_law 188 = .ok (.iconst 5, 1) := decs_at DL_law_48 0 rfl
theorem dL_law_189 : decode cL_law 189 = .ok (.iadd, 1) := decs_at DL_law_48 1 rfl
theorem dL_law_190 : decode cL_law 190 = .ok (.iaload, 1) := decs_at DL_law_48 2 rfl
theorem dL_law_191 : decode cL_law 191 = .ok (.invokevirtual 23, 3) := decs_at DL_law_48 3 rfl
theorem dL_law_194 : decode cL_law 194 = .ok (.aload_n 2, 1) := decs_at DL_law_48 4 rfl
theorem dL_law_195 : decode cL_law 195 = .ok (.aload_n 0, 1) := decs_at DL_law_48 5 rfl
theorem dL_law_196 : decode cL_law 196 = .ok (.iload 4, 2) := decs_at DL_law_48 6 rfl
theorem dL_law_198 : decode cL_law 198 = .ok (.iconst 1, 1) := decs_at DL_law_48 7 rfl
theorem dL_law_199 : decode cL_law 199 = .ok (.iadd, 1) := decs_at DL_law_48 8 rfl
theorem dL_law_200 : decode cL_law 200 = .ok (.iaload, 1) := decs_at DL_law_48 9 rfl
theorem dL_law_201 : decode cL_law 201 = .ok (.aload_n 0, 1) := decs_at DL_law_48 10 rfl
theorem dL_law_202 : decode cL_law 202 = .ok (.iload 4, 2) := decs_at DL_law_48 11 rfl
theorem dL_law_204 : decode cL_law 204 = .ok (.iconst 2, 1) := decs_at DL_law_48 12 rfl
theorem dL_law_205 : decode cL_law 205 = .ok (.iadd, 1) := decs_at DL_law_48 13 rfl
theorem dL_law_206 : decode cL_law 206 = .ok (.iaload, 1) := decs_at DL_law_48 14 rfl
theorem dL_law_207 : decode cL_law 207 = .ok (.aload_n 0, 1) := decs_at DL_law_48 15 rfl
theorem dL_law_208 : decode cL_law 208 = .ok (.iload 4, 2) := decs_at DL_law_48 16 rfl
theorem dL_law_210 : decode cL_law 210 = .ok (.iconst 3, 1) := decs_at DL_law_48 17 rfl
theorem dL_law_211 : decode cL_law 211 = .ok (.iadd, 1) := decs_at DL_law_48 18 rfl
theorem dL_law_212 : decode cL_law 212 = .ok (.iaload, 1) := decs_at DL_law_48 19 rfl
theorem dL_law_213 : decode cL_law 213 = .ok (.aload_n 0, 1) := decs_at DL_law_48 20 rfl
theorem dL_law_214 : decode cL_law 214 = .ok (.iload 4, 2) := decs_at DL_law_48 21 rfl
theorem dL_law_216 : decode cL_law 216 = .ok (.iconst 4, 1) := decs_at DL_law_48 22 rfl
theorem dL_law_217 : decode cL_law 217 = .ok (.iadd, 1) := decs_at DL_law_48 23 rfl
theorem DL_law_72 : decs cL_law [(218, .iaload, 1), (219, .aload_n 0, 1), (220, .iload 4, 2), (222, .iconst 5, 1), (223, .iadd, 1), (224, .iaload, 1), (225, .invokevirtual 27, 3), (228, .if_icmp .eq 876, 3), (231, .iconst 0, 1), (232, .ireturn, 1), (233, .aload_n 1, 1), (234, .aload_n 0, 1), (235, .iload 4, 2), (237, .iconst 1, 1), (238, .iadd, 1), (239, .iaload, 1), (240, .invokevirtual 28, 3), (243, .aload_n 2, 1), (244, .aload_n 0, 1), (245, .iload 4, 2), (247, .iconst 1, 1), (248, .iadd, 1), (249, .iaload, 1), (250, .invokevirtual 32, 3)] := by unfold decs; decide +kernel
theorem dL_law_218 : decode cL_law 218 = .ok (.iaload, 1) := decs_at DL_law_72 0 rfl
theorem dL_law_219 : decode cL_law 219 = .ok (.aload_n 0, 1) := decs_at DL_law_72 1 rfl
theorem dL_law_220 : decode cL_law 220 = .ok (.iload 4, 2) := decs_at DL_law_72 2 rfl
theorem dL_law_222 : decode cL_law 222 = .ok (.iconst 5, 1) := decs_at DL_law_72 3 rfl
theorem dL_law_223 : decode cL_law 223 = .ok (.iadd, 1) := decs_at DL_law_72 4 rfl
theorem dL_law_224 : decode cL_law 224 = .ok (.iaload, 1) := decs_at DL_law_72 5 rfl
theorem dL_law_225 : decode cL_law 225 = .ok (.invokevirtual 27, 3) := decs_at DL_law_72 6 rfl
theorem dL_law_228 : decode cL_law 228 = .ok (.if_icmp .eq 876, 3) := decs_at DL_law_72 7 rfl
theorem dL_law_231 : decode cL_law 231 = .ok (.iconst 0, 1) := decs_at DL_law_72 8 rfl
theorem dL_law_232 : decode cL_law 232 = .ok (.ireturn, 1) := decs_at DL_law_72 9 rfl
theorem dL_law_233 : decode cL_law 233 = .ok (.aload_n 1, 1) := decs_at DL_law_72 10 rfl
theorem dL_law_234 : decode cL_law 234 = .ok (.aload_n 0, 1) := decs_at DL_law_72 11 rfl
theorem dL_law_235 : decode cL_law 235 = .ok (.iload 4, 2) := decs_at DL_law_72 12 rfl
theorem dL_law_237 : decode cL_law 237 = .ok (.iconst 1, 1) := decs_at DL_law_72 13 rfl
theorem dL_law_238 : decode cL_law 238 = .ok (.iadd, 1) := decs_at DL_law_72 14 rfl
theorem dL_law_239 : decode cL_law 239 = .ok (.iaload, 1) := decs_at DL_law_72 15 rfl
theorem dL_law_240 : decode cL_law 240 = .ok (.invokevirtual 28, 3) := decs_at DL_law_72 16 rfl
theorem dL_law_243 : decode cL_law 243 = .ok (.aload_n 2, 1) := decs_at DL_law_72 17 rfl
theorem dL_law_244 : decode cL_law 244 = .ok (.aload_n 0, 1) := decs_at DL_law_72 18 rfl
theorem dL_law_245 : decode cL_law 245 = .ok (.iload 4, 2) := decs_at DL_law_72 19 rfl
theorem dL_law_247 : decode cL_law 247 = .ok (.iconst 1, 1) := decs_at DL_law_72 20 rfl
theorem dL_law_248 : decode cL_law 248 = .ok (.iadd, 1) := decs_at DL_law_72 21 rfl
theorem dL_law_249 : decode cL_law 249 = .ok (.iaload, 1) := decs_at DL_law_72 22 rfl
theorem dL_law_250 : decode cL_law 250 = .ok (.invokevirtual 32, 3) := decs_at DL_law_72 23 rfl
theorem DL_law_96 : decs cL_law [(253, .if_icmp .eq 851, 3), (256, .iconst 0, 1), (257, .ireturn, 1), (258, .aload_n 1, 1), (259, .invokevirtual 33, 3), (262, .aload_n 2, 1), (263, .invokevirtual 37, 3), (266, .if_icmp .eq 838, 3), (269, .iconst 0, 1), (270, .ireturn, 1), (271, .aload_n 1, 1), (272, .invokevirtual 38, 3), (275, .aload_n 2, 1), (276, .invokevirtual 41, 3), (279, .if_icmp .eq 825, 3), (282, .iconst 0, 1), (283, .ireturn, 1), (284, .aload_n 1, 1), (285, .invokevirtual 42, 3), (288, .aload_n 2, 1), (289, .invokevirtual 45, 3), (292, .if_icmp .eq 812, 3), (295, .iconst 0, 1), (296, .ireturn, 1)] := by unfold decs; decide +kernel
theorem dL_law_253 : decode cL_law 253 = .ok (.if_icmp .eq 851, 3) := decs_at DL_law_96 0 rfl
theorem dL_law_256 : decode cL_law 256 = .ok (.iconst 0, 1) := decs_at DL_law_96 1 rfl
theorem dL_law_257 : decode cL_law 257 = .ok (.ireturn, 1) := decs_at DL_law_96 2 rfl
theorem dL_law_258 : decode cL_law 258 = .ok (.aload_n 1, 1) := decs_at DL_law_96 3 rfl
theorem dL_law_259 : decode cL_law 259 = .ok (.invokevirtual 33, 3) := decs_at DL_law_96 4 rfl
theorem dL_law_262 : decode cL_law 262 = .ok (.aload_n 2, 1) := decs_at DL_law_96 5 rfl
theorem dL_law_263 : decode cL_law 263 = .ok (.invokevirtual 37, 3) := decs_at DL_law_96 6 rfl
theorem dL_law_266 : decode cL_law 266 = .ok (.if_icmp .eq 838, 3) := decs_at DL_law_96 7 rfl
theorem dL_law_269 : decode cL_law 269 = .ok (.iconst 0, 1) := decs_at DL_law_96 8 rfl
theorem dL_law_270 : decode cL_law 270 = .ok (.ireturn, 1) := decs_at DL_law_96 9 rfl
theorem dL_law_271 : decode cL_law 271 = .ok (.aload_n 1, 1) := decs_at DL_law_96 10 rfl
theorem dL_law_272 : decode cL_law 272 = .ok (.invokevirtual 38, 3) := decs_at DL_law_96 11 rfl
theorem dL_law_275 : decode cL_law 275 = .ok (.aload_n 2, 1) := decs_at DL_law_96 12 rfl
theorem dL_law_276 : decode cL_law 276 = .ok (.invokevirtual 41, 3) := decs_at DL_law_96 13 rfl
theorem dL_law_279 : decode cL_law 279 = .ok (.if_icmp .eq 825, 3) := decs_at DL_law_96 14 rfl
theorem dL_law_282 : decode cL_law 282 = .ok (.iconst 0, 1) := decs_at DL_law_96 15 rfl
theorem dL_law_283 : decode cL_law 283 = .ok (.ireturn, 1) := decs_at DL_law_96 16 rfl
theorem dL_law_284 : decode cL_law 284 = .ok (.aload_n 1, 1) := decs_at DL_law_96 17 rfl
theorem dL_law_285 : decode cL_law 285 = .ok (.invokevirtual 42, 3) := decs_at DL_law_96 18 rfl
theorem dL_law_288 : decode cL_law 288 = .ok (.aload_n 2, 1) := decs_at DL_law_96 19 rfl
theorem dL_law_289 : decode cL_law 289 = .ok (.invokevirtual 45, 3) := decs_at DL_law_96 20 rfl
theorem dL_law_292 : decode cL_law 292 = .ok (.if_icmp .eq 812, 3) := decs_at DL_law_96 21 rfl
theorem dL_law_295 : decode cL_law 295 = .ok (.iconst 0, 1) := decs_at DL_law_96 22 rfl
theorem dL_law_296 : decode cL_law 296 = .ok (.ireturn, 1) := decs_at DL_law_96 23 rfl
theorem DL_law_120 : decs cL_law [(297, .aload_n 1, 1), (298, .aload_n 0, 1), (299, .iload 4, 2), (301, .iconst 1, 1), (302, .iadd, 1), (303, .iaload, 1), (304, .aload_n 0, 1), (305, .iload 4, 2), (307, .iconst 2, 1), (308, .iadd, 1), (309, .iaload, 1), (310, .aload_n 3, 1), (311, .invokestatic 46, 3), (314, .istore 5, 2), (316, .aload_n 2, 1), (317, .aload_n 0, 1), (318, .iload 4, 2), (320, .iconst 1, 1), (321, .iadd, 1), (322, .iaload, 1), (323, .aload_n 0, 1), (324, .iload 4, 2), (326, .iconst 2, 1), (327, .iadd, 1)] := by unfold decs; decide +kernel
theorem dL_law_297 : decode cL_law 297 = .ok (.aload_n 1, 1) := decs_at DL_law_120 0 rfl
theorem dL_law_298 : decode cL_law 298 = .ok (.aload_n 0, 1) := decs_at DL_law_120 1 rfl
theorem dL_law_299 : decode cL_law 299 = .ok (.iload 4, 2) := decs_at DL_law_120 2 rfl
theorem dL_law_301 : decode cL_law 301 = .ok (.iconst 1, 1) := decs_at DL_law_120 3 rfl
theorem dL_law_302 : decode cL_law 302 = .ok (.iadd, 1) := decs_at DL_law_120 4 rfl
theorem dL_law_303 : decode cL_law 303 = .ok (.iaload, 1) := decs_at DL_law_120 5 rfl
theorem dL_law_304 : decode cL_law 304 = .ok (.aload_n 0, 1) := decs_at DL_law_120 6 rfl
theorem dL_law_305 : decode cL_law 305 = .ok (.iload 4, 2) := decs_at DL_law_120 7 rfl
theorem dL_law_307 : decode cL_law 307 = .ok (.iconst 2, 1) := decs_at DL_law_120 8 rfl
theorem dL_law_308 : decode cL_law 308 = .ok (.iadd, 1) := decs_at DL_law_120 9 rfl
theorem dL_law_309 : decode cL_law 309 = .ok (.iaload, 1) := decs_at DL_law_120 10 rfl
theorem dL_law_310 : decode cL_law 310 = .ok (.aload_n 3, 1) := decs_at DL_law_120 11 rfl
theorem dL_law_311 : decode cL_law 311 = .ok (.invokestatic 46, 3) := decs_at DL_law_120 12 rfl
theorem dL_law_314 : decode cL_law 314 = .ok (.istore 5, 2) := decs_at DL_law_120 13 rfl
theorem dL_law_316 : decode cL_law 316 = .ok (.aload_n 2, 1) := decs_at DL_law_120 14 rfl
theorem dL_law_317 : decode cL_law 317 = .ok (.aload_n 0, 1) := decs_at DL_law_120 15 rfl
theorem dL_law_318 : decode cL_law 318 = .ok (.iload 4, 2) := decs_at DL_law_120 16 rfl
theorem dL_law_320 : decode cL_law 320 = .ok (.iconst 1, 1) := decs_at DL_law_120 17 rfl
theorem dL_law_321 : decode cL_law 321 = .ok (.iadd, 1) := decs_at DL_law_120 18 rfl
theorem dL_law_322 : decode cL_law 322 = .ok (.iaload, 1) := decs_at DL_law_120 19 rfl
theorem dL_law_323 : decode cL_law 323 = .ok (.aload_n 0, 1) := decs_at DL_law_120 20 rfl
theorem dL_law_324 : decode cL_law 324 = .ok (.iload 4, 2) := decs_at DL_law_120 21 rfl
theorem dL_law_326 : decode cL_law 326 = .ok (.iconst 2, 1) := decs_at DL_law_120 22 rfl
theorem dL_law_327 : decode cL_law 327 = .ok (.iadd, 1) := decs_at DL_law_120 23 rfl
theorem DL_law_144 : decs cL_law [(328, .iaload, 1), (329, .invokevirtual 51, 3), (332, .istore 6, 2), (334, .aload_n 2, 1), (335, .invokevirtual 52, 3), (338, .iload 5, 2), (340, .if_icmp .eq 5, 3), (343, .iconst 0, 1), (344, .ireturn, 1), (345, .iload 5, 2), (347, .ifCond .ne 15, 3), (350, .aload_n 3, 1), (351, .iconst 0, 1), (352, .laload, 1), (353, .iload 6, 2), (355, .i2l, 1), (356, .lcmp, 1), (357, .ifCond .eq 5, 3), (360, .iconst 0, 1), (361, .ireturn, 1), (362, .goto 742, 3), (365, .aload_n 1, 1), (366, .aload_n 0, 1), (367, .iload 4, 2)] := by unfold decs; decide +kernel
theorem dL_law_328 : decode cL_law 328 = .ok (.iaload, 1) := decs_at DL_law_144 0 rfl
theorem dL_law_329 : decode cL_law 329 = .ok (.invokevirtual 51, 3) := decs_at DL_law_144 1 rfl
theorem dL_law_332 : decode cL_law 332 = .ok (.istore 6, 2) := decs_at DL_law_144 2 rfl
theorem dL_law_334 : decode cL_law 334 = .ok (.aload_n 2, 1) := decs_at DL_law_144 3 rfl
theorem dL_law_335 : decode cL_law 335 = .ok (.invokevirtual 52, 3) := decs_at DL_law_144 4 rfl
theorem dL_law_338 : decode cL_law 338 = .ok (.iload 5, 2) := decs_at DL_law_144 5 rfl
theorem dL_law_340 : decode cL_law 340 = .ok (.if_icmp .eq 5, 3) := decs_at DL_law_144 6 rfl
theorem dL_law_343 : decode cL_law 343 = .ok (.iconst 0, 1) := decs_at DL_law_144 7 rfl
theorem dL_law_344 : decode cL_law 344 = .ok (.ireturn, 1) := decs_at DL_law_144 8 rfl
theorem dL_law_345 : decode cL_law 345 = .ok (.iload 5, 2) := decs_at DL_law_144 9 rfl
theorem dL_law_347 : decode cL_law 347 = .ok (.ifCond .ne 15, 3) := decs_at DL_law_144 10 rfl
theorem dL_law_350 : decode cL_law 350 = .ok (.aload_n 3, 1) := decs_at DL_law_144 11 rfl
theorem dL_law_351 : decode cL_law 351 = .ok (.iconst 0, 1) := decs_at DL_law_144 12 rfl
theorem dL_law_352 : decode cL_law 352 = .ok (.laload, 1) := decs_at DL_law_144 13 rfl
theorem dL_law_353 : decode cL_law 353 = .ok (.iload 6, 2) := decs_at DL_law_144 14 rfl
theorem dL_law_355 : decode cL_law 355 = .ok (.i2l, 1) := decs_at DL_law_144 15 rfl
theorem dL_law_356 : decode cL_law 356 = .ok (.lcmp, 1) := decs_at DL_law_144 16 rfl
theorem dL_law_357 : decode cL_law 357 = .ok (.ifCond .eq 5, 3) := decs_at DL_law_144 17 rfl
theorem dL_law_360 : decode cL_law 360 = .ok (.iconst 0, 1) := decs_at DL_law_144 18 rfl
theorem dL_law_361 : decode cL_law 361 = .ok (.ireturn, 1) := decs_at DL_law_144 19 rfl
theorem dL_law_362 : decode cL_law 362 = .ok (.goto 742, 3) := decs_at DL_law_144 20 rfl
theorem dL_law_365 : decode cL_law 365 = .ok (.aload_n 1, 1) := decs_at DL_law_144 21 rfl
theorem dL_law_366 : decode cL_law 366 = .ok (.aload_n 0, 1) := decs_at DL_law_144 22 rfl
theorem dL_law_367 : decode cL_law 367 = .ok (.iload 4, 2) := decs_at DL_law_144 23 rfl
theorem DL_law_168 : decs cL_law [(369, .iconst 1, 1), (370, .iadd, 1), (371, .iaload, 1), (372, .aload_n 0, 1), (373, .iload 4, 2), (375, .iconst 2, 1), (376, .iadd, 1), (377, .iaload, 1), (378, .aload_n 0, 1), (379, .iload 4, 2), (381, .iconst 3, 1), (382, .iadd, 1), (383, .iaload, 1), (384, .aload_n 3, 1), (385, .invokestatic 55, 3), (388, .istore 5, 2), (390, .aload_n 2, 1), (391, .aload_n 0, 1), (392, .iload 4, 2), (394, .iconst 1, 1), (395, .iadd, 1), (396, .iaload, 1), (397, .aload_n 0, 1), (398, .iload 4, 2)] := by unfold decs; decide +kernel
theorem dL_law_369 : decode cL_law 369 = .ok (.iconst 1, 1) := decs_at DL_law_168 0 rfl
theorem dL_law_370 : decode cL_law 370 = .ok (.iadd, 1) := decs_at DL_law_168 1 rfl
theorem dL_law_371 : decode cL_law 371 = .ok (.iaload, 1) := decs_at DL_law_168 2 rfl
theorem dL_law_372 : decode cL_law 372 = .ok (.aload_n 0, 1) := decs_at DL_law_168 3 rfl
theorem dL_law_373 : decode cL_law 373 = .ok (.iload 4, 2) := decs_at DL_law_168 4 rfl
theorem dL_law_375 : decode cL_law 375 = .ok (.iconst 2, 1) := decs_at DL_law_168 5 rfl
theorem dL_law_376 : decode cL_law 376 = .ok (.iadd, 1) := decs_at DL_law_168 6 rfl
theorem dL_law_377 : decode cL_law 377 = .ok (.iaload, 1) := decs_at DL_law_168 7 rfl
theorem dL_law_378 : decode cL_law 378 = .ok (.aload_n 0, 1) := decs_at DL_law_168 8 rfl
theorem dL_law_379 : decode cL_law 379 = .ok (.iload 4, 2) := decs_at DL_law_168 9 rfl
theorem dL_law_381 : decode cL_law 381 = .ok (.iconst 3, 1) := decs_at DL_law_168 10 rfl
theorem dL_law_382 : decode cL_law 382 = .ok (.iadd, 1) := decs_at DL_law_168 11 rfl
theorem dL_law_383 : decode cL_law 383 = .ok (.iaload, 1) := decs_at DL_law_168 12 rfl
theorem dL_law_384 : decode cL_law 384 = .ok (.aload_n 3, 1) := decs_at DL_law_168 13 rfl
theorem dL_law_385 : decode cL_law 385 = .ok (.invokestatic 55, 3) := decs_at DL_law_168 14 rfl
theorem dL_law_388 : decode cL_law 388 = .ok (.istore 5, 2) := decs_at DL_law_168 15 rfl
theorem dL_law_390 : decode cL_law 390 = .ok (.aload_n 2, 1) := decs_at DL_law_168 16 rfl
theorem dL_law_391 : decode cL_law 391 = .ok (.aload_n 0, 1) := decs_at DL_law_168 17 rfl
theorem dL_law_392 : decode cL_law 392 = .ok (.iload 4, 2) := decs_at DL_law_168 18 rfl
theorem dL_law_394 : decode cL_law 394 = .ok (.iconst 1, 1) := decs_at DL_law_168 19 rfl
theorem dL_law_395 : decode cL_law 395 = .ok (.iadd, 1) := decs_at DL_law_168 20 rfl
theorem dL_law_396 : decode cL_law 396 = .ok (.iaload, 1) := decs_at DL_law_168 21 rfl
theorem dL_law_397 : decode cL_law 397 = .ok (.aload_n 0, 1) := decs_at DL_law_168 22 rfl
theorem dL_law_398 : decode cL_law 398 = .ok (.iload 4, 2) := decs_at DL_law_168 23 rfl
theorem DL_law_192 : decs cL_law [(400, .iconst 2, 1), (401, .iadd, 1), (402, .iaload, 1), (403, .aload_n 0, 1), (404, .iload 4, 2), (406, .iconst 3, 1), (407, .iadd, 1), (408, .iaload, 1), (409, .invokevirtual 58, 3), (412, .istore 6, 2), (414, .aload_n 2, 1), (415, .invokevirtual 52, 3), (418, .iload 5, 2), (420, .if_icmp .eq 5, 3), (423, .iconst 0, 1), (424, .ireturn, 1), (425, .iload 5, 2), (427, .ifCond .ne 15, 3), (430, .aload_n 3, 1), (431, .iconst 0, 1), (432, .laload, 1), (433, .iload 6, 2), (435, .i2l, 1), (436, .lcmp, 1)] := by unfold decs; decide +kernel
theorem dL_law_400 : decode cL_law 400 = .ok (.iconst 2, 1) := decs_at DL_law_192 0 rfl
theorem dL_law_401 : decode cL_law 401 = .ok (.iadd, 1) := decs_at DL_law_192 1 rfl
theorem dL_law_402 : decode cL_law 402 = .ok (.iaload, 1) := decs_at DL_law_192 2 rfl
theorem dL_law_403 : decode cL_law 403 = .ok (.aload_n 0, 1) := decs_at DL_law_192 3 rfl
theorem dL_law_404 : decode cL_law 404 = .ok (.iload 4, 2) := decs_at DL_law_192 4 rfl
theorem dL_law_406 : decode cL_law 406 = .ok (.iconst 3, 1) := decs_at DL_law_192 5 rfl
theorem dL_law_407 : decode cL_law 407 = .ok (.iadd, 1) := decs_at DL_law_192 6 rfl
theorem dL_law_408 : decode cL_law 408 = .ok (.iaload, 1) := decs_at DL_law_192 7 rfl
theorem dL_law_409 : decode cL_law 409 = .ok (.invokevirtual 58, 3) := decs_at DL_law_192 8 rfl
theorem dL_law_412 : decode cL_law 412 = .ok (.istore 6, 2) := decs_at DL_law_192 9 rfl
theorem dL_law_414 : decode cL_law 414 = .ok (.aload_n 2, 1) := decs_at DL_law_192 10 rfl
theorem dL_law_415 : decode cL_law 415 = .ok (.invokevirtual 52, 3) := decs_at DL_law_192 11 rfl
theorem dL_law_418 : decode cL_law 418 = .ok (.iload 5, 2) := decs_at DL_law_192 12 rfl
theorem dL_law_420 : decode cL_law 420 = .ok (.if_icmp .eq 5, 3) := decs_at DL_law_192 13 rfl
theorem dL_law_423 : decode cL_law 423 = .ok (.iconst 0, 1) := decs_at DL_law_192 14 rfl
theorem dL_law_424 : decode cL_law 424 = .ok (.ireturn, 1) := decs_at DL_law_192 15 rfl
theorem dL_law_425 : decode cL_law 425 = .ok (.iload 5, 2) := decs_at DL_law_192 16 rfl
theorem dL_law_427 : decode cL_law 427 = .ok (.ifCond .ne 15, 3) := decs_at DL_law_192 17 rfl
theorem dL_law_430 : decode cL_law 430 = .ok (.aload_n 3, 1) := decs_at DL_law_192 18 rfl
theorem dL_law_431 : decode cL_law 431 = .ok (.iconst 0, 1) := decs_at DL_law_192 19 rfl
theorem dL_law_432 : decode cL_law 432 = .ok (.laload, 1) := decs_at DL_law_192 20 rfl
theorem dL_law_433 : decode cL_law 433 = .ok (.iload 6, 2) := decs_at DL_law_192 21 rfl
theorem dL_law_435 : decode cL_law 435 = .ok (.i2l, 1) := decs_at DL_law_192 22 rfl
theorem dL_law_436 : decode cL_law 436 = .ok (.lcmp, 1) := decs_at DL_law_192 23 rfl
theorem DL_law_216 : decs cL_law [(437, .ifCond .eq 5, 3), (440, .iconst 0, 1), (441, .ireturn, 1), (442, .goto 662, 3), (445, .aload_n 1, 1), (446, .aload_n 0, 1), (447, .iload 4, 2), (449, .iconst 1, 1), (450, .iadd, 1), (451, .iaload, 1), (452, .invokevirtual 59, 3), (455, .aload_n 2, 1), (456, .aload_n 0, 1), (457, .iload 4, 2), (459, .iconst 1, 1), (460, .iadd, 1), (461, .iaload, 1), (462, .invokevirtual 63, 3), (465, .if_icmp .eq 639, 3), (468, .iconst 0, 1), (469, .ireturn, 1), (470, .aload_n 1, 1), (471, .invokevirtual 64, 3), (474, .aload_n 2, 1)] := by unfold decs; decide +kernel
theorem dL_law_437 : decode cL_law 437 = .ok (.ifCond .eq 5, 3) := decs_at DL_law_216 0 rfl
theorem dL_law_440 : decode cL_law 440 = .ok (.iconst 0, 1) := decs_at DL_law_216 1 rfl
theorem dL_law_441 : decode cL_law 441 = .ok (.ireturn, 1) := decs_at DL_law_216 2 rfl
theorem dL_law_442 : decode cL_law 442 = .ok (.goto 662, 3) := decs_at DL_law_216 3 rfl
theorem dL_law_445 : decode cL_law 445 = .ok (.aload_n 1, 1) := decs_at DL_law_216 4 rfl
theorem dL_law_446 : decode cL_law 446 = .ok (.aload_n 0, 1) := decs_at DL_law_216 5 rfl
theorem dL_law_447 : decode cL_law 447 = .ok (.iload 4, 2) := decs_at DL_law_216 6 rfl
theorem dL_law_449 : decode cL_law 449 = .ok (.iconst 1, 1) := decs_at DL_law_216 7 rfl
theorem dL_law_450 : decode cL_law 450 = .ok (.iadd, 1) := decs_at DL_law_216 8 rfl
theorem dL_law_451 : decode cL_law 451 = .ok (.iaload, 1) := decs_at DL_law_216 9 rfl
theorem dL_law_452 : decode cL_law 452 = .ok (.invokevirtual 59, 3) := decs_at DL_law_216 10 rfl
theorem dL_law_455 : decode cL_law 455 = .ok (.aload_n 2, 1) := decs_at DL_law_216 11 rfl
theorem dL_law_456 : decode cL_law 456 = .ok (.aload_n 0, 1) := decs_at DL_law_216 12 rfl
theorem dL_law_457 : decode cL_law 457 = .ok (.iload 4, 2) := decs_at DL_law_216 13 rfl
theorem dL_law_459 : decode cL_law 459 = .ok (.iconst 1, 1) := decs_at DL_law_216 14 rfl
theorem dL_law_460 : decode cL_law 460 = .ok (.iadd, 1) := decs_at DL_law_216 15 rfl
theorem dL_law_461 : decode cL_law 461 = .ok (.iaload, 1) := decs_at DL_law_216 16 rfl
theorem dL_law_462 : decode cL_law 462 = .ok (.invokevirtual 63, 3) := decs_at DL_law_216 17 rfl
theorem dL_law_465 : decode cL_law 465 = .ok (.if_icmp .eq 639, 3) := decs_at DL_law_216 18 rfl
theorem dL_law_468 : decode cL_law 468 = .ok (.iconst 0, 1) := decs_at DL_law_216 19 rfl
theorem dL_law_469 : decode cL_law 469 = .ok (.ireturn, 1) := decs_at DL_law_216 20 rfl
theorem dL_law_470 : decode cL_law 470 = .ok (.aload_n 1, 1) := decs_at DL_law_216 21 rfl
theorem dL_law_471 : decode cL_law 471 = .ok (.invokevirtual 64, 3) := decs_at DL_law_216 22 rfl
theorem dL_law_474 : decode cL_law 474 = .ok (.aload_n 2, 1) := decs_at DL_law_216 23 rfl
theorem DL_law_240 : decs cL_law [(475, .invokevirtual 67, 3), (478, .if_icmp .eq 626, 3), (481, .iconst 0, 1), (482, .ireturn, 1), (483, .aload_n 1, 1), (484, .aload_n 0, 1), (485, .iload 4, 2), (487, .iconst 1, 1), (488, .iadd, 1), (489, .iaload, 1), (490, .aload_n 0, 1), (491, .iload 4, 2), (493, .iconst 2, 1), (494, .iadd, 1), (495, .iaload, 1), (496, .aload_n 0, 1), (497, .iload 4, 2), (499, .iconst 3, 1), (500, .iadd, 1), (501, .iaload, 1), (502, .invokevirtual 68, 3), (505, .aload_n 2, 1), (506, .aload_n 0, 1), (507, .iload 4, 2)] := by unfold decs; decide +kernel
theorem dL_law_475 : decode cL_law 475 = .ok (.invokevirtual 67, 3) := decs_at DL_law_240 0 rfl
theorem dL_law_478 : decode cL_law 478 = .ok (.if_icmp .eq 626, 3) := decs_at DL_law_240 1 rfl
theorem dL_law_481 : decode cL_law 481 = .ok (.iconst 0, 1) := decs_at DL_law_240 2 rfl
theorem dL_law_482 : decode cL_law 482 = .ok (.ireturn, 1) := decs_at DL_law_240 3 rfl
theorem dL_law_483 : decode cL_law 483 = .ok (.aload_n 1, 1) := decs_at DL_law_240 4 rfl
theorem dL_law_484 : decode cL_law 484 = .ok (.aload_n 0, 1) := decs_at DL_law_240 5 rfl
theorem dL_law_485 : decode cL_law 485 = .ok (.iload 4, 2) := decs_at DL_law_240 6 rfl
theorem dL_law_487 : decode cL_law 487 = .ok (.iconst 1, 1) := decs_at DL_law_240 7 rfl
theorem dL_law_488 : decode cL_law 488 = .ok (.iadd, 1) := decs_at DL_law_240 8 rfl
theorem dL_law_489 : decode cL_law 489 = .ok (.iaload, 1) := decs_at DL_law_240 9 rfl
theorem dL_law_490 : decode cL_law 490 = .ok (.aload_n 0, 1) := decs_at DL_law_240 10 rfl
theorem dL_law_491 : decode cL_law 491 = .ok (.iload 4, 2) := decs_at DL_law_240 11 rfl
theorem dL_law_493 : decode cL_law 493 = .ok (.iconst 2, 1) := decs_at DL_law_240 12 rfl
theorem dL_law_494 : decode cL_law 494 = .ok (.iadd, 1) := decs_at DL_law_240 13 rfl
theorem dL_law_495 : decode cL_law 495 = .ok (.iaload, 1) := decs_at DL_law_240 14 rfl
theorem dL_law_496 : decode cL_law 496 = .ok (.aload_n 0, 1) := decs_at DL_law_240 15 rfl
theorem dL_law_497 : decode cL_law 497 = .ok (.iload 4, 2) := decs_at DL_law_240 16 rfl
theorem dL_law_499 : decode cL_law 499 = .ok (.iconst 3, 1) := decs_at DL_law_240 17 rfl
theorem dL_law_500 : decode cL_law 500 = .ok (.iadd, 1) := decs_at DL_law_240 18 rfl
theorem dL_law_501 : decode cL_law 501 = .ok (.iaload, 1) := decs_at DL_law_240 19 rfl
theorem dL_law_502 : decode cL_law 502 = .ok (.invokevirtual 68, 3) := decs_at DL_law_240 20 rfl
theorem dL_law_505 : decode cL_law 505 = .ok (.aload_n 2, 1) := decs_at DL_law_240 21 rfl
theorem dL_law_506 : decode cL_law 506 = .ok (.aload_n 0, 1) := decs_at DL_law_240 22 rfl
theorem dL_law_507 : decode cL_law 507 = .ok (.iload 4, 2) := decs_at DL_law_240 23 rfl
theorem DL_law_264 : decs cL_law [(509, .iconst 1, 1), (510, .iadd, 1), (511, .iaload, 1), (512, .aload_n 0, 1), (513, .iload 4, 2), (515, .iconst 2, 1), (516, .iadd, 1), (517, .iaload, 1), (518, .aload_n 0, 1), (519, .iload 4, 2), (521, .iconst 3, 1), (522, .iadd, 1), (523, .iaload, 1), (524, .invokevirtual 71, 3), (527, .if_icmp .eq 577, 3), (530, .iconst 0, 1), (531, .ireturn, 1), (532, .aload_n 1, 1), (533, .aload_n 0, 1), (534, .iload 4, 2), (536, .iconst 1, 1), (537, .iadd, 1), (538, .iaload, 1), (539, .invokevirtual 72, 3)] := by unfold decs; decide +kernel
theorem dL_law_509 : decode cL_law 509 = .ok (.iconst 1, 1) := decs_at DL_law_264 0 rfl
theorem dL_law_510 : decode cL_law 510 = .ok (.iadd, 1) := decs_at DL_law_264 1 rfl
theorem dL_law_511 : decode cL_law 511 = .ok (.iaload, 1) := decs_at DL_law_264 2 rfl
theorem dL_law_512 : decode cL_law 512 = .ok (.aload_n 0, 1) := decs_at DL_law_264 3 rfl
theorem dL_law_513 : decode cL_law 513 = .ok (.iload 4, 2) := decs_at DL_law_264 4 rfl
theorem dL_law_515 : decode cL_law 515 = .ok (.iconst 2, 1) := decs_at DL_law_264 5 rfl
theorem dL_law_516 : decode cL_law 516 = .ok (.iadd, 1) := decs_at DL_law_264 6 rfl
theorem dL_law_517 : decode cL_law 517 = .ok (.iaload, 1) := decs_at DL_law_264 7 rfl
theorem dL_law_518 : decode cL_law 518 = .ok (.aload_n 0, 1) := decs_at DL_law_264 8 rfl
theorem dL_law_519 : decode cL_law 519 = .ok (.iload 4, 2) := decs_at DL_law_264 9 rfl
theorem dL_law_521 : decode cL_law 521 = .ok (.iconst 3, 1) := decs_at DL_law_264 10 rfl
theorem dL_law_522 : decode cL_law 522 = .ok (.iadd, 1) := decs_at DL_law_264 11 rfl
theorem dL_law_523 : decode cL_law 523 = .ok (.iaload, 1) := decs_at DL_law_264 12 rfl
theorem dL_law_524 : decode cL_law 524 = .ok (.invokevirtual 71, 3) := decs_at DL_law_264 13 rfl
theorem dL_law_527 : decode cL_law 527 = .ok (.if_icmp .eq 577, 3) := decs_at DL_law_264 14 rfl
theorem dL_law_530 : decode cL_law 530 = .ok (.iconst 0, 1) := decs_at DL_law_264 15 rfl
theorem dL_law_531 : decode cL_law 531 = .ok (.ireturn, 1) := decs_at DL_law_264 16 rfl
theorem dL_law_532 : decode cL_law 532 = .ok (.aload_n 1, 1) := decs_at DL_law_264 17 rfl
theorem dL_law_533 : decode cL_law 533 = .ok (.aload_n 0, 1) := decs_at DL_law_264 18 rfl
theorem dL_law_534 : decode cL_law 534 = .ok (.iload 4, 2) := decs_at DL_law_264 19 rfl
theorem dL_law_536 : decode cL_law 536 = .ok (.iconst 1, 1) := decs_at DL_law_264 20 rfl
theorem dL_law_537 : decode cL_law 537 = .ok (.iadd, 1) := decs_at DL_law_264 21 rfl
theorem dL_law_538 : decode cL_law 538 = .ok (.iaload, 1) := decs_at DL_law_264 22 rfl
theorem dL_law_539 : decode cL_law 539 = .ok (.invokevirtual 72, 3) := decs_at DL_law_264 23 rfl
theorem DL_law_288 : decs cL_law [(542, .aload_n 2, 1), (543, .aload_n 0, 1), (544, .iload 4, 2), (546, .iconst 1, 1), (547, .iadd, 1), (548, .iaload, 1), (549, .invokevirtual 75, 3), (552, .if_icmp .eq 552, 3), (555, .iconst 0, 1), (556, .ireturn, 1), (557, .aload_n 1, 1), (558, .aload_n 0, 1), (559, .iload 4, 2), (561, .iconst 1, 1), (562, .iadd, 1), (563, .iaload, 1), (564, .aload_n 0, 1), (565, .iload 4, 2), (567, .iconst 2, 1), (568, .iadd, 1), (569, .iaload, 1), (570, .aload_n 0, 1), (571, .iload 4, 2), (573, .iconst 3, 1)] := by unfold decs; decide +kernel
theorem dL_law_542 : decode cL_law 542 = .ok (.aload_n 2, 1) := decs_at DL_law_288 0 rfl
theorem dL_law_543 : decode cL_law 543 = .ok (.aload_n 0, 1) := decs_at DL_law_288 1 rfl
theorem dL_law_544 : decode cL_law 544 = .ok (.iload 4, 2) := decs_at DL_law_288 2 rfl
theorem dL_law_546 : decode cL_law 546 = .ok (.iconst 1, 1) := decs_at DL_law_288 3 rfl
theorem dL_law_547 : decode cL_law 547 = .ok (.iadd, 1) := decs_at DL_law_288 4 rfl
theorem dL_law_548 : decode cL_law 548 = .ok (.iaload, 1) := decs_at DL_law_288 5 rfl
theorem dL_law_549 : decode cL_law 549 = .ok (.invokevirtual 75, 3) := decs_at DL_law_288 6 rfl
theorem dL_law_552 : decode cL_law 552 = .ok (.if_icmp .eq 552, 3) := decs_at DL_law_288 7 rfl
theorem dL_law_555 : decode cL_law 555 = .ok (.iconst 0, 1) := decs_at DL_law_288 8 rfl
theorem dL_law_556 : decode cL_law 556 = .ok (.ireturn, 1) := decs_at DL_law_288 9 rfl
theorem dL_law_557 : decode cL_law 557 = .ok (.aload_n 1, 1) := decs_at DL_law_288 10 rfl
theorem dL_law_558 : decode cL_law 558 = .ok (.aload_n 0, 1) := decs_at DL_law_288 11 rfl
theorem dL_law_559 : decode cL_law 559 = .ok (.iload 4, 2) := decs_at DL_law_288 12 rfl
theorem dL_law_561 : decode cL_law 561 = .ok (.iconst 1, 1) := decs_at DL_law_288 13 rfl
theorem dL_law_562 : decode cL_law 562 = .ok (.iadd, 1) := decs_at DL_law_288 14 rfl
theorem dL_law_563 : decode cL_law 563 = .ok (.iaload, 1) := decs_at DL_law_288 15 rfl
theorem dL_law_564 : decode cL_law 564 = .ok (.aload_n 0, 1) := decs_at DL_law_288 16 rfl
theorem dL_law_565 : decode cL_law 565 = .ok (.iload 4, 2) := decs_at DL_law_288 17 rfl
theorem dL_law_567 : decode cL_law 567 = .ok (.iconst 2, 1) := decs_at DL_law_288 18 rfl
theorem dL_law_568 : decode cL_law 568 = .ok (.iadd, 1) := decs_at DL_law_288 19 rfl
theorem dL_law_569 : decode cL_law 569 = .ok (.iaload, 1) := decs_at DL_law_288 20 rfl
theorem dL_law_570 : decode cL_law 570 = .ok (.aload_n 0, 1) := decs_at DL_law_288 21 rfl
theorem dL_law_571 : decode cL_law 571 = .ok (.iload 4, 2) := decs_at DL_law_288 22 rfl
theorem dL_law_573 : decode cL_law 573 = .ok (.iconst 3, 1) := decs_at DL_law_288 23 rfl
theorem DL_law_312 : decs cL_law [(574, .iadd, 1), (575, .iaload, 1), (576, .aload_n 0, 1), (577, .iload 4, 2), (579, .iconst 4, 1), (580, .iadd, 1), (581, .iaload, 1), (582, .invokevirtual 76, 3), (585, .aload_n 2, 1), (586, .aload_n 0, 1), (587, .iload 4, 2), (589, .iconst 1, 1), (590, .iadd, 1), (591, .iaload, 1), (592, .aload_n 0, 1), (593, .iload 4, 2), (595, .iconst 2, 1), (596, .iadd, 1), (597, .iaload, 1), (598, .aload_n 0, 1), (599, .iload 4, 2), (601, .iconst 3, 1), (602, .iadd, 1), (603, .iaload, 1)] := by unfold decs; decide +kernel
theorem dL_law_574 : decode cL_law 574 = .ok (.iadd, 1) := decs_at DL_law_312 0 rfl
theorem dL_law_575 : decode cL_law 575 = .ok (.iaload, 1) := decs_at DL_law_312 1 rfl
theorem dL_law_576 : decode cL_law 576 = .ok (.aload_n 0, 1) := decs_at DL_law_312 2 rfl
theorem dL_law_577 : decode cL_law 577 = .ok (.iload 4, 2) := decs_at DL_law_312 3 rfl
theorem dL_law_579 : decode cL_law 579 = .ok (.iconst 4, 1) := decs_at DL_law_312 4 rfl
theorem dL_law_580 : decode cL_law 580 = .ok (.iadd, 1) := decs_at DL_law_312 5 rfl
theorem dL_law_581 : decode cL_law 581 = .ok (.iaload, 1) := decs_at DL_law_312 6 rfl
theorem dL_law_582 : decode cL_law 582 = .ok (.invokevirtual 76, 3) := decs_at DL_law_312 7 rfl
theorem dL_law_585 : decode cL_law 585 = .ok (.aload_n 2, 1) := decs_at DL_law_312 8 rfl
theorem dL_law_586 : decode cL_law 586 = .ok (.aload_n 0, 1) := decs_at DL_law_312 9 rfl
theorem dL_law_587 : decode cL_law 587 = .ok (.iload 4, 2) := decs_at DL_law_312 10 rfl
theorem dL_law_589 : decode cL_law 589 = .ok (.iconst 1, 1) := decs_at DL_law_312 11 rfl
theorem dL_law_590 : decode cL_law 590 = .ok (.iadd, 1) := decs_at DL_law_312 12 rfl
theorem dL_law_591 : decode cL_law 591 = .ok (.iaload, 1) := decs_at DL_law_312 13 rfl
theorem dL_law_592 : decode cL_law 592 = .ok (.aload_n 0, 1) := decs_at DL_law_312 14 rfl
theorem dL_law_593 : decode cL_law 593 = .ok (.iload 4, 2) := decs_at DL_law_312 15 rfl
theorem dL_law_595 : decode cL_law 595 = .ok (.iconst 2, 1) := decs_at DL_law_312 16 rfl
theorem dL_law_596 : decode cL_law 596 = .ok (.iadd, 1) := decs_at DL_law_312 17 rfl
theorem dL_law_597 : decode cL_law 597 = .ok (.iaload, 1) := decs_at DL_law_312 18 rfl
theorem dL_law_598 : decode cL_law 598 = .ok (.aload_n 0, 1) := decs_at DL_law_312 19 rfl
theorem dL_law_599 : decode cL_law 599 = .ok (.iload 4, 2) := decs_at DL_law_312 20 rfl
theorem dL_law_601 : decode cL_law 601 = .ok (.iconst 3, 1) := decs_at DL_law_312 21 rfl
theorem dL_law_602 : decode cL_law 602 = .ok (.iadd, 1) := decs_at DL_law_312 22 rfl
theorem dL_law_603 : decode cL_law 603 = .ok (.iaload, 1) := decs_at DL_law_312 23 rfl
theorem DL_law_336 : decs cL_law [(604, .aload_n 0, 1), (605, .iload 4, 2), (607, .iconst 4, 1), (608, .iadd, 1), (609, .iaload, 1), (610, .invokevirtual 80, 3), (613, .if_icmp .eq 491, 3), (616, .iconst 0, 1), (617, .ireturn, 1), (618, .aload_n 1, 1), (619, .aload_n 0, 1), (620, .iload 4, 2), (622, .iconst 1, 1), (623, .iadd, 1), (624, .iaload, 1), (625, .aload_n 0, 1), (626, .iload 4, 2), (628, .iconst 2, 1), (629, .iadd, 1), (630, .iaload, 1), (631, .aload_n 0, 1), (632, .iload 4, 2), (634, .iconst 3, 1), (635, .iadd, 1)] := by unfold decs; decide +kernel
theorem dL_law_604 : decode cL_law 604 = .ok (.aload_n 0, 1) := decs_at DL_law_336 0 rfl
theorem dL_law_605 : decode cL_law 605 = .ok (.iload 4, 2) := decs_at DL_law_336 1 rfl
theorem dL_law_607 : decode cL_law 607 = .ok (.iconst 4, 1) := decs_at DL_law_336 2 rfl
theorem dL_law_608 : decode cL_law 608 = .ok (.iadd, 1) := decs_at DL_law_336 3 rfl
theorem dL_law_609 : decode cL_law 609 = .ok (.iaload, 1) := decs_at DL_law_336 4 rfl
theorem dL_law_610 : decode cL_law 610 = .ok (.invokevirtual 80, 3) := decs_at DL_law_336 5 rfl
theorem dL_law_613 : decode cL_law 613 = .ok (.if_icmp .eq 491, 3) := decs_at DL_law_336 6 rfl
theorem dL_law_616 : decode cL_law 616 = .ok (.iconst 0, 1) := decs_at DL_law_336 7 rfl
theorem dL_law_617 : decode cL_law 617 = .ok (.ireturn, 1) := decs_at DL_law_336 8 rfl
theorem dL_law_618 : decode cL_law 618 = .ok (.aload_n 1, 1) := decs_at DL_law_336 9 rfl
theorem dL_law_619 : decode cL_law 619 = .ok (.aload_n 0, 1) := decs_at DL_law_336 10 rfl
theorem dL_law_620 : decode cL_law 620 = .ok (.iload 4, 2) := decs_at DL_law_336 11 rfl
theorem dL_law_622 : decode cL_law 622 = .ok (.iconst 1, 1) := decs_at DL_law_336 12 rfl
theorem dL_law_623 : decode cL_law 623 = .ok (.iadd, 1) := decs_at DL_law_336 13 rfl
theorem dL_law_624 : decode cL_law 624 = .ok (.iaload, 1) := decs_at DL_law_336 14 rfl
theorem dL_law_625 : decode cL_law 625 = .ok (.aload_n 0, 1) := decs_at DL_law_336 15 rfl
theorem dL_law_626 : decode cL_law 626 = .ok (.iload 4, 2) := decs_at DL_law_336 16 rfl
theorem dL_law_628 : decode cL_law 628 = .ok (.iconst 2, 1) := decs_at DL_law_336 17 rfl
theorem dL_law_629 : decode cL_law 629 = .ok (.iadd, 1) := decs_at DL_law_336 18 rfl
theorem dL_law_630 : decode cL_law 630 = .ok (.iaload, 1) := decs_at DL_law_336 19 rfl
theorem dL_law_631 : decode cL_law 631 = .ok (.aload_n 0, 1) := decs_at DL_law_336 20 rfl
theorem dL_law_632 : decode cL_law 632 = .ok (.iload 4, 2) := decs_at DL_law_336 21 rfl
theorem dL_law_634 : decode cL_law 634 = .ok (.iconst 3, 1) := decs_at DL_law_336 22 rfl
theorem dL_law_635 : decode cL_law 635 = .ok (.iadd, 1) := decs_at DL_law_336 23 rfl
theorem DL_law_360 : decs cL_law [(636, .iaload, 1), (637, .aload_n 0, 1), (638, .iload 4, 2), (640, .iconst 4, 1), (641, .iadd, 1), (642, .iaload, 1), (643, .aload_n 0, 1), (644, .iload 4, 2), (646, .iconst 5, 1), (647, .iadd, 1), (648, .iaload, 1), (649, .invokevirtual 81, 3), (652, .aload_n 2, 1), (653, .aload_n 0, 1), (654, .iload 4, 2), (656, .iconst 1, 1), (657, .iadd, 1), (658, .iaload, 1), (659, .aload_n 0, 1), (660, .iload 4, 2), (662, .iconst 2, 1), (663, .iadd, 1), (664, .iaload, 1), (665, .aload_n 0, 1)] := by unfold decs; decide +kernel
theorem dL_law_636 : decode cL_law 636 = .ok (.iaload, 1) := decs_at DL_law_360 0 rfl
theorem dL_law_637 : decode cL_law 637 = .ok (.aload_n 0, 1) := decs_at DL_law_360 1 rfl
theorem dL_law_638 : decode cL_law 638 = .ok (.iload 4, 2) := decs_at DL_law_360 2 rfl
theorem dL_law_640 : decode cL_law 640 = .ok (.iconst 4, 1) := decs_at DL_law_360 3 rfl
theorem dL_law_641 : decode cL_law 641 = .ok (.iadd, 1) := decs_at DL_law_360 4 rfl
theorem dL_law_642 : decode cL_law 642 = .ok (.iaload, 1) := decs_at DL_law_360 5 rfl
theorem dL_law_643 : decode cL_law 643 = .ok (.aload_n 0, 1) := decs_at DL_law_360 6 rfl
theorem dL_law_644 : decode cL_law 644 = .ok (.iload 4, 2) := decs_at DL_law_360 7 rfl
theorem dL_law_646 : decode cL_law 646 = .ok (.iconst 5, 1) := decs_at DL_law_360 8 rfl
theorem dL_law_647 : decode cL_law 647 = .ok (.iadd, 1) := decs_at DL_law_360 9 rfl
theorem dL_law_648 : decode cL_law 648 = .ok (.iaload, 1) := decs_at DL_law_360 10 rfl
theorem dL_law_649 : decode cL_law 649 = .ok (.invokevirtual 81, 3) := decs_at DL_law_360 11 rfl
theorem dL_law_652 : decode cL_law 652 = .ok (.aload_n 2, 1) := decs_at DL_law_360 12 rfl
theorem dL_law_653 : decode cL_law 653 = .ok (.aload_n 0, 1) := decs_at DL_law_360 13 rfl
theorem dL_law_654 : decode cL_law 654 = .ok (.iload 4, 2) := decs_at DL_law_360 14 rfl
theorem dL_law_656 : decode cL_law 656 = .ok (.iconst 1, 1) := decs_at DL_law_360 15 rfl
theorem dL_law_657 : decode cL_law 657 = .ok (.iadd, 1) := decs_at DL_law_360 16 rfl
theorem dL_law_658 : decode cL_law 658 = .ok (.iaload, 1) := decs_at DL_law_360 17 rfl
theorem dL_law_659 : decode cL_law 659 = .ok (.aload_n 0, 1) := decs_at DL_law_360 18 rfl
theorem dL_law_660 : decode cL_law 660 = .ok (.iload 4, 2) := decs_at DL_law_360 19 rfl
theorem dL_law_662 : decode cL_law 662 = .ok (.iconst 2, 1) := decs_at DL_law_360 20 rfl
theorem dL_law_663 : decode cL_law 663 = .ok (.iadd, 1) := decs_at DL_law_360 21 rfl
theorem dL_law_664 : decode cL_law 664 = .ok (.iaload, 1) := decs_at DL_law_360 22 rfl
theorem dL_law_665 : decode cL_law 665 = .ok (.aload_n 0, 1) := decs_at DL_law_360 23 rfl
theorem DL_law_384 : decs cL_law [(666, .iload 4, 2), (668, .iconst 3, 1), (669, .iadd, 1), (670, .iaload, 1), (671, .aload_n 0, 1), (672, .iload 4, 2), (674, .iconst 4, 1), (675, .iadd, 1), (676, .iaload, 1), (677, .aload_n 0, 1), (678, .iload 4, 2), (680, .iconst 5, 1), (681, .iadd, 1), (682, .iaload, 1), (683, .invokevirtual 84, 3), (686, .if_icmp .eq 418, 3), (689, .iconst 0, 1), (690, .ireturn, 1), (691, .aload_n 1, 1), (692, .aload_n 0, 1), (693, .iload 4, 2), (695, .iconst 1, 1), (696, .iadd, 1), (697, .iaload, 1)] := by unfold decs; decide +kernel
theorem dL_law_666 : decode cL_law 666 = .ok (.iload 4, 2) := decs_at DL_law_384 0 rfl
theorem dL_law_668 : decode cL_law 668 = .ok (.iconst 3, 1) := decs_at DL_law_384 1 rfl
theorem dL_law_669 : decode cL_law 669 = .ok (.iadd, 1) := decs_at DL_law_384 2 rfl
theorem dL_law_670 : decode cL_law 670 = .ok (.iaload, 1) := decs_at DL_law_384 3 rfl
theorem dL_law_671 : decode cL_law 671 = .ok (.aload_n 0, 1) := decs_at DL_law_384 4 rfl
theorem dL_law_672 : decode cL_law 672 = .ok (.iload 4, 2) := decs_at DL_law_384 5 rfl
theorem dL_law_674 : decode cL_law 674 = .ok (.iconst 4, 1) := decs_at DL_law_384 6 rfl
theorem dL_law_675 : decode cL_law 675 = .ok (.iadd, 1) := decs_at DL_law_384 7 rfl
theorem dL_law_676 : decode cL_law 676 = .ok (.iaload, 1) := decs_at DL_law_384 8 rfl
theorem dL_law_677 : decode cL_law 677 = .ok (.aload_n 0, 1) := decs_at DL_law_384 9 rfl
theorem dL_law_678 : decode cL_law 678 = .ok (.iload 4, 2) := decs_at DL_law_384 10 rfl
theorem dL_law_680 : decode cL_law 680 = .ok (.iconst 5, 1) := decs_at DL_law_384 11 rfl
theorem dL_law_681 : decode cL_law 681 = .ok (.iadd, 1) := decs_at DL_law_384 12 rfl
theorem dL_law_682 : decode cL_law 682 = .ok (.iaload, 1) := decs_at DL_law_384 13 rfl
theorem dL_law_683 : decode cL_law 683 = .ok (.invokevirtual 84, 3) := decs_at DL_law_384 14 rfl
theorem dL_law_686 : decode cL_law 686 = .ok (.if_icmp .eq 418, 3) := decs_at DL_law_384 15 rfl
theorem dL_law_689 : decode cL_law 689 = .ok (.iconst 0, 1) := decs_at DL_law_384 16 rfl
theorem dL_law_690 : decode cL_law 690 = .ok (.ireturn, 1) := decs_at DL_law_384 17 rfl
theorem dL_law_691 : decode cL_law 691 = .ok (.aload_n 1, 1) := decs_at DL_law_384 18 rfl
theorem dL_law_692 : decode cL_law 692 = .ok (.aload_n 0, 1) := decs_at DL_law_384 19 rfl
theorem dL_law_693 : decode cL_law 693 = .ok (.iload 4, 2) := decs_at DL_law_384 20 rfl
theorem dL_law_695 : decode cL_law 695 = .ok (.iconst 1, 1) := decs_at DL_law_384 21 rfl
theorem dL_law_696 : decode cL_law 696 = .ok (.iadd, 1) := decs_at DL_law_384 22 rfl
theorem dL_law_697 : decode cL_law 697 = .ok (.iaload, 1) := decs_at DL_law_384 23 rfl
theorem DL_law_408 : decs cL_law [(698, .aload_n 0, 1), (699, .iload 4, 2), (701, .iconst 2, 1), (702, .iadd, 1), (703, .iaload, 1), (704, .aload_n 0, 1), (705, .iload 4, 2), (707, .iconst 3, 1), (708, .iadd, 1), (709, .iaload, 1), (710, .aload_n 0, 1), (711, .iload 4, 2), (713, .iconst 4, 1), (714, .iadd, 1), (715, .iaload, 1), (716, .invokevirtual 85, 3), (719, .aload_n 2, 1), (720, .aload_n 0, 1), (721, .iload 4, 2), (723, .iconst 1, 1), (724, .iadd, 1), (725, .iaload, 1), (726, .aload_n 0, 1), (727, .iload 4, 2)] := by unfold decs; decide +kernel
theorem dL_law_698 : decode cL_law 698 = .ok (.aload_n 0, 1) := decs_at DL_law_408 0 rfl
theorem dL_law_699 : decode cL_law 699 = .ok (.iload 4, 2) := decs_at DL_law_408 1 rfl
theorem dL_law_701 : decode cL_law 701 = .ok (.iconst 2, 1) := decs_at DL_law_408 2 rfl
theorem dL_law_702 : decode cL_law 702 = .ok (.iadd, 1) := decs_at DL_law_408 3 rfl
theorem dL_law_703 : decode cL_law 703 = .ok (.iaload, 1) := decs_at DL_law_408 4 rfl
theorem dL_law_704 : decode cL_law 704 = .ok (.aload_n 0, 1) := decs_at DL_law_408 5 rfl
theorem dL_law_705 : decode cL_law 705 = .ok (.iload 4, 2) := decs_at DL_law_408 6 rfl
theorem dL_law_707 : decode cL_law 707 = .ok (.iconst 3, 1) := decs_at DL_law_408 7 rfl
theorem dL_law_708 : decode cL_law 708 = .ok (.iadd, 1) := decs_at DL_law_408 8 rfl
theorem dL_law_709 : decode cL_law 709 = .ok (.iaload, 1) := decs_at DL_law_408 9 rfl
theorem dL_law_710 : decode cL_law 710 = .ok (.aload_n 0, 1) := decs_at DL_law_408 10 rfl
theorem dL_law_711 : decode cL_law 711 = .ok (.iload 4, 2) := decs_at DL_law_408 11 rfl
theorem dL_law_713 : decode cL_law 713 = .ok (.iconst 4, 1) := decs_at DL_law_408 12 rfl
theorem dL_law_714 : decode cL_law 714 = .ok (.iadd, 1) := decs_at DL_law_408 13 rfl
theorem dL_law_715 : decode cL_law 715 = .ok (.iaload, 1) := decs_at DL_law_408 14 rfl
theorem dL_law_716 : decode cL_law 716 = .ok (.invokevirtual 85, 3) := decs_at DL_law_408 15 rfl
theorem dL_law_719 : decode cL_law 719 = .ok (.aload_n 2, 1) := decs_at DL_law_408 16 rfl
theorem dL_law_720 : decode cL_law 720 = .ok (.aload_n 0, 1) := decs_at DL_law_408 17 rfl
theorem dL_law_721 : decode cL_law 721 = .ok (.iload 4, 2) := decs_at DL_law_408 18 rfl
theorem dL_law_723 : decode cL_law 723 = .ok (.iconst 1, 1) := decs_at DL_law_408 19 rfl
theorem dL_law_724 : decode cL_law 724 = .ok (.iadd, 1) := decs_at DL_law_408 20 rfl
theorem dL_law_725 : decode cL_law 725 = .ok (.iaload, 1) := decs_at DL_law_408 21 rfl
theorem dL_law_726 : decode cL_law 726 = .ok (.aload_n 0, 1) := decs_at DL_law_408 22 rfl
theorem dL_law_727 : decode cL_law 727 = .ok (.iload 4, 2) := decs_at DL_law_408 23 rfl
theorem DL_law_432 : decs cL_law [(729, .iconst 2, 1), (730, .iadd, 1), (731, .iaload, 1), (732, .aload_n 0, 1), (733, .iload 4, 2), (735, .iconst 3, 1), (736, .iadd, 1), (737, .iaload, 1), (738, .aload_n 0, 1), (739, .iload 4, 2), (741, .iconst 4, 1), (742, .iadd, 1), (743, .iaload, 1), (744, .invokevirtual 88, 3), (747, .if_icmp .eq 357, 3), (750, .iconst 0, 1), (751, .ireturn, 1), (752, .aload_n 1, 1), (753, .aload_n 0, 1), (754, .iload 4, 2), (756, .iconst 1, 1), (757, .iadd, 1), (758, .iaload, 1), (759, .invokevirtual 89, 3)] := by unfold decs; decide +kernel
theorem dL_law_729 : decode cL_law 729 = .ok (.iconst 2, 1) := decs_at DL_law_432 0 rfl
theorem dL_law_730 : decode cL_law 730 = .ok (.iadd, 1) := decs_at DL_law_432 1 rfl
theorem dL_law_731 : decode cL_law 731 = .ok (.iaload, 1) := decs_at DL_law_432 2 rfl
theorem dL_law_732 : decode cL_law 732 = .ok (.aload_n 0, 1) := decs_at DL_law_432 3 rfl
theorem dL_law_733 : decode cL_law 733 = .ok (.iload 4, 2) := decs_at DL_law_432 4 rfl
theorem dL_law_735 : decode cL_law 735 = .ok (.iconst 3, 1) := decs_at DL_law_432 5 rfl
theorem dL_law_736 : decode cL_law 736 = .ok (.iadd, 1) := decs_at DL_law_432 6 rfl
theorem dL_law_737 : decode cL_law 737 = .ok (.iaload, 1) := decs_at DL_law_432 7 rfl
theorem dL_law_738 : decode cL_law 738 = .ok (.aload_n 0, 1) := decs_at DL_law_432 8 rfl
theorem dL_law_739 : decode cL_law 739 = .ok (.iload 4, 2) := decs_at DL_law_432 9 rfl
theorem dL_law_741 : decode cL_law 741 = .ok (.iconst 4, 1) := decs_at DL_law_432 10 rfl
theorem dL_law_742 : decode cL_law 742 = .ok (.iadd, 1) := decs_at DL_law_432 11 rfl
theorem dL_law_743 : decode cL_law 743 = .ok (.iaload, 1) := decs_at DL_law_432 12 rfl
theorem dL_law_744 : decode cL_law 744 = .ok (.invokevirtual 88, 3) := decs_at DL_law_432 13 rfl
theorem dL_law_747 : decode cL_law 747 = .ok (.if_icmp .eq 357, 3) := decs_at DL_law_432 14 rfl
theorem dL_law_750 : decode cL_law 750 = .ok (.iconst 0, 1) := decs_at DL_law_432 15 rfl
theorem dL_law_751 : decode cL_law 751 = .ok (.ireturn, 1) := decs_at DL_law_432 16 rfl
theorem dL_law_752 : decode cL_law 752 = .ok (.aload_n 1, 1) := decs_at DL_law_432 17 rfl
theorem dL_law_753 : decode cL_law 753 = .ok (.aload_n 0, 1) := decs_at DL_law_432 18 rfl
theorem dL_law_754 : decode cL_law 754 = .ok (.iload 4, 2) := decs_at DL_law_432 19 rfl
theorem dL_law_756 : decode cL_law 756 = .ok (.iconst 1, 1) := decs_at DL_law_432 20 rfl
theorem dL_law_757 : decode cL_law 757 = .ok (.iadd, 1) := decs_at DL_law_432 21 rfl
theorem dL_law_758 : decode cL_law 758 = .ok (.iaload, 1) := decs_at DL_law_432 22 rfl
theorem dL_law_759 : decode cL_law 759 = .ok (.invokevirtual 89, 3) := decs_at DL_law_432 23 rfl
theorem DL_law_456 : decs cL_law [(762, .aload_n 2, 1), (763, .aload_n 0, 1), (764, .iload 4, 2), (766, .iconst 1, 1), (767, .iadd, 1), (768, .iaload, 1), (769, .invokevirtual 92, 3), (772, .if_icmp .eq 332, 3), (775, .iconst 0, 1), (776, .ireturn, 1), (777, .aload_n 1, 1), (778, .aload_n 0, 1), (779, .iload 4, 2), (781, .iconst 1, 1), (782, .iadd, 1), (783, .iaload, 1), (784, .aload_n 0, 1), (785, .iload 4, 2), (787, .iconst 2, 1), (788, .iadd, 1), (789, .iaload, 1), (790, .aload_n 0, 1), (791, .iload 4, 2), (793, .iconst 3, 1)] := by unfold decs; decide +kernel
theorem dL_law_762 : decode cL_law 762 = .ok (.aload_n 2, 1) := decs_at DL_law_456 0 rfl
theorem dL_law_763 : decode cL_law 763 = .ok (.aload_n 0, 1) := decs_at DL_law_456 1 rfl
theorem dL_law_764 : decode cL_law 764 = .ok (.iload 4, 2) := decs_at DL_law_456 2 rfl
theorem dL_law_766 : decode cL_law 766 = .ok (.iconst 1, 1) := decs_at DL_law_456 3 rfl
theorem dL_law_767 : decode cL_law 767 = .ok (.iadd, 1) := decs_at DL_law_456 4 rfl
theorem dL_law_768 : decode cL_law 768 = .ok (.iaload, 1) := decs_at DL_law_456 5 rfl
theorem dL_law_769 : decode cL_law 769 = .ok (.invokevirtual 92, 3) := decs_at DL_law_456 6 rfl
theorem dL_law_772 : decode cL_law 772 = .ok (.if_icmp .eq 332, 3) := decs_at DL_law_456 7 rfl
theorem dL_law_775 : decode cL_law 775 = .ok (.iconst 0, 1) := decs_at DL_law_456 8 rfl
theorem dL_law_776 : decode cL_law 776 = .ok (.ireturn, 1) := decs_at DL_law_456 9 rfl
theorem dL_law_777 : decode cL_law 777 = .ok (.aload_n 1, 1) := decs_at DL_law_456 10 rfl
theorem dL_law_778 : decode cL_law 778 = .ok (.aload_n 0, 1) := decs_at DL_law_456 11 rfl
theorem dL_law_779 : decode cL_law 779 = .ok (.iload 4, 2) := decs_at DL_law_456 12 rfl
theorem dL_law_781 : decode cL_law 781 = .ok (.iconst 1, 1) := decs_at DL_law_456 13 rfl
theorem dL_law_782 : decode cL_law 782 = .ok (.iadd, 1) := decs_at DL_law_456 14 rfl
theorem dL_law_783 : decode cL_law 783 = .ok (.iaload, 1) := decs_at DL_law_456 15 rfl
theorem dL_law_784 : decode cL_law 784 = .ok (.aload_n 0, 1) := decs_at DL_law_456 16 rfl
theorem dL_law_785 : decode cL_law 785 = .ok (.iload 4, 2) := decs_at DL_law_456 17 rfl
theorem dL_law_787 : decode cL_law 787 = .ok (.iconst 2, 1) := decs_at DL_law_456 18 rfl
theorem dL_law_788 : decode cL_law 788 = .ok (.iadd, 1) := decs_at DL_law_456 19 rfl
theorem dL_law_789 : decode cL_law 789 = .ok (.iaload, 1) := decs_at DL_law_456 20 rfl
theorem dL_law_790 : decode cL_law 790 = .ok (.aload_n 0, 1) := decs_at DL_law_456 21 rfl
theorem dL_law_791 : decode cL_law 791 = .ok (.iload 4, 2) := decs_at DL_law_456 22 rfl
theorem dL_law_793 : decode cL_law 793 = .ok (.iconst 3, 1) := decs_at DL_law_456 23 rfl
theorem DL_law_480 : decs cL_law [(794, .iadd, 1), (795, .iaload, 1), (796, .aload_n 0, 1), (797, .iload 4, 2), (799, .iconst 4, 1), (800, .iadd, 1), (801, .iaload, 1), (802, .invokevirtual 93, 3), (805, .aload_n 2, 1), (806, .aload_n 0, 1), (807, .iload 4, 2), (809, .iconst 1, 1), (810, .iadd, 1), (811, .iaload, 1), (812, .aload_n 0, 1), (813, .iload 4, 2), (815, .iconst 2, 1), (816, .iadd, 1), (817, .iaload, 1), (818, .aload_n 0, 1), (819, .iload 4, 2), (821, .iconst 3, 1), (822, .iadd, 1), (823, .iaload, 1)] := by unfold decs; decide +kernel
theorem dL_law_794 : decode cL_law 794 = .ok (.iadd, 1) := decs_at DL_law_480 0 rfl
theorem dL_law_795 : decode cL_law 795 = .ok (.iaload, 1) := decs_at DL_law_480 1 rfl
theorem dL_law_796 : decode cL_law 796 = .ok (.aload_n 0, 1) := decs_at DL_law_480 2 rfl
theorem dL_law_797 : decode cL_law 797 = .ok (.iload 4, 2) := decs_at DL_law_480 3 rfl
theorem dL_law_799 : decode cL_law 799 = .ok (.iconst 4, 1) := decs_at DL_law_480 4 rfl
theorem dL_law_800 : decode cL_law 800 = .ok (.iadd, 1) := decs_at DL_law_480 5 rfl
theorem dL_law_801 : decode cL_law 801 = .ok (.iaload, 1) := decs_at DL_law_480 6 rfl
theorem dL_law_802 : decode cL_law 802 = .ok (.invokevirtual 93, 3) := decs_at DL_law_480 7 rfl
theorem dL_law_805 : decode cL_law 805 = .ok (.aload_n 2, 1) := decs_at DL_law_480 8 rfl
theorem dL_law_806 : decode cL_law 806 = .ok (.aload_n 0, 1) := decs_at DL_law_480 9 rfl
theorem dL_law_807 : decode cL_law 807 = .ok (.iload 4, 2) := decs_at DL_law_480 10 rfl
theorem dL_law_809 : decode cL_law 809 = .ok (.iconst 1, 1) := decs_at DL_law_480 11 rfl
theorem dL_law_810 : decode cL_law 810 = .ok (.iadd, 1) := decs_at DL_law_480 12 rfl
theorem dL_law_811 : decode cL_law 811 = .ok (.iaload, 1) := decs_at DL_law_480 13 rfl
theorem dL_law_812 : decode cL_law 812 = .ok (.aload_n 0, 1) := decs_at DL_law_480 14 rfl
theorem dL_law_813 : decode cL_law 813 = .ok (.iload 4, 2) := decs_at DL_law_480 15 rfl
theorem dL_law_815 : decode cL_law 815 = .ok (.iconst 2, 1) := decs_at DL_law_480 16 rfl
theorem dL_law_816 : decode cL_law 816 = .ok (.iadd, 1) := decs_at DL_law_480 17 rfl
theorem dL_law_817 : decode cL_law 817 = .ok (.iaload, 1) := decs_at DL_law_480 18 rfl
theorem dL_law_818 : decode cL_law 818 = .ok (.aload_n 0, 1) := decs_at DL_law_480 19 rfl
theorem dL_law_819 : decode cL_law 819 = .ok (.iload 4, 2) := decs_at DL_law_480 20 rfl
theorem dL_law_821 : decode cL_law 821 = .ok (.iconst 3, 1) := decs_at DL_law_480 21 rfl
theorem dL_law_822 : decode cL_law 822 = .ok (.iadd, 1) := decs_at DL_law_480 22 rfl
theorem dL_law_823 : decode cL_law 823 = .ok (.iaload, 1) := decs_at DL_law_480 23 rfl
theorem DL_law_504 : decs cL_law [(824, .aload_n 0, 1), (825, .iload 4, 2), (827, .iconst 4, 1), (828, .iadd, 1), (829, .iaload, 1), (830, .invokevirtual 96, 3), (833, .if_icmp .eq 271, 3), (836, .iconst 0, 1), (837, .ireturn, 1), (838, .aload_n 1, 1), (839, .aload_n 0, 1), (840, .iload 4, 2), (842, .iconst 1, 1), (843, .iadd, 1), (844, .iaload, 1), (845, .aload_n 0, 1), (846, .iload 4, 2), (848, .iconst 2, 1), (849, .iadd, 1), (850, .iaload, 1), (851, .invokevirtual 97, 3), (854, .aload_n 2, 1), (855, .aload_n 0, 1), (856, .iload 4, 2)] := by unfold decs; decide +kernel
theorem dL_law_824 : decode cL_law 824 = .ok (.aload_n 0, 1) := decs_at DL_law_504 0 rfl
theorem dL_law_825 : decode cL_law 825 = .ok (.iload 4, 2) := decs_at DL_law_504 1 rfl
theorem dL_law_827 : decode cL_law 827 = .ok (.iconst 4, 1) := decs_at DL_law_504 2 rfl
theorem dL_law_828 : decode cL_law 828 = .ok (.iadd, 1) := decs_at DL_law_504 3 rfl
theorem dL_law_829 : decode cL_law 829 = .ok (.iaload, 1) := decs_at DL_law_504 4 rfl
theorem dL_law_830 : decode cL_law 830 = .ok (.invokevirtual 96, 3) := decs_at DL_law_504 5 rfl
theorem dL_law_833 : decode cL_law 833 = .ok (.if_icmp .eq 271, 3) := decs_at DL_law_504 6 rfl
theorem dL_law_836 : decode cL_law 836 = .ok (.iconst 0, 1) := decs_at DL_law_504 7 rfl
theorem dL_law_837 : decode cL_law 837 = .ok (.ireturn, 1) := decs_at DL_law_504 8 rfl
theorem dL_law_838 : decode cL_law 838 = .ok (.aload_n 1, 1) := decs_at DL_law_504 9 rfl
theorem dL_law_839 : decode cL_law 839 = .ok (.aload_n 0, 1) := decs_at DL_law_504 10 rfl
theorem dL_law_840 : decode cL_law 840 = .ok (.iload 4, 2) := decs_at DL_law_504 11 rfl
theorem dL_law_842 : decode cL_law 842 = .ok (.iconst 1, 1) := decs_at DL_law_504 12 rfl
theorem dL_law_843 : decode cL_law 843 = .ok (.iadd, 1) := decs_at DL_law_504 13 rfl
theorem dL_law_844 : decode cL_law 844 = .ok (.iaload, 1) := decs_at DL_law_504 14 rfl
theorem dL_law_845 : decode cL_law 845 = .ok (.aload_n 0, 1) := decs_at DL_law_504 15 rfl
theorem dL_law_846 : decode cL_law 846 = .ok (.iload 4, 2) := decs_at DL_law_504 16 rfl
theorem dL_law_848 : decode cL_law 848 = .ok (.iconst 2, 1) := decs_at DL_law_504 17 rfl
theorem dL_law_849 : decode cL_law 849 = .ok (.iadd, 1) := decs_at DL_law_504 18 rfl
theorem dL_law_850 : decode cL_law 850 = .ok (.iaload, 1) := decs_at DL_law_504 19 rfl
theorem dL_law_851 : decode cL_law 851 = .ok (.invokevirtual 97, 3) := decs_at DL_law_504 20 rfl
theorem dL_law_854 : decode cL_law 854 = .ok (.aload_n 2, 1) := decs_at DL_law_504 21 rfl
theorem dL_law_855 : decode cL_law 855 = .ok (.aload_n 0, 1) := decs_at DL_law_504 22 rfl
theorem dL_law_856 : decode cL_law 856 = .ok (.iload 4, 2) := decs_at DL_law_504 23 rfl
theorem DL_law_528 : decs cL_law [(858, .iconst 1, 1), (859, .iadd, 1), (860, .iaload, 1), (861, .aload_n 0, 1), (862, .iload 4, 2), (864, .iconst 2, 1), (865, .iadd, 1), (866, .iaload, 1), (867, .invokevirtual 100, 3), (870, .if_icmp .eq 234, 3), (873, .iconst 0, 1), (874, .ireturn, 1), (875, .aload_n 1, 1), (876, .aload_n 0, 1), (877, .iload 4, 2), (879, .iconst 1, 1), (880, .iadd, 1), (881, .iaload, 1), (882, .invokevirtual 101, 3), (885, .aload_n 2, 1), (886, .aload_n 0, 1), (887, .iload 4, 2), (889, .iconst 1, 1), (890, .iadd, 1)] := by unfold decs; decide +kernel
theorem dL_law_858 : decode cL_law 858 = .ok (.iconst 1, 1) := decs_at DL_law_528 0 rfl
theorem dL_law_859 : decode cL_law 859 = .ok (.iadd, 1) := decs_at DL_law_528 1 rfl
theorem dL_law_860 : decode cL_law 860 = .ok (.iaload, 1) := decs_at DL_law_528 2 rfl
theorem dL_law_861 : decode cL_law 861 = .ok (.aload_n 0, 1) := decs_at DL_law_528 3 rfl
theorem dL_law_862 : decode cL_law 862 = .ok (.iload 4, 2) := decs_at DL_law_528 4 rfl
theorem dL_law_864 : decode cL_law 864 = .ok (.iconst 2, 1) := decs_at DL_law_528 5 rfl
theorem dL_law_865 : decode cL_law 865 = .ok (.iadd, 1) := decs_at DL_law_528 6 rfl
theorem dL_law_866 : decode cL_law 866 = .ok (.iaload, 1) := decs_at DL_law_528 7 rfl
theorem dL_law_867 : decode cL_law 867 = .ok (.invokevirtual 100, 3) := decs_at DL_law_528 8 rfl
theorem dL_law_870 : decode cL_law 870 = .ok (.if_icmp .eq 234, 3) := decs_at DL_law_528 9 rfl
theorem dL_law_873 : decode cL_law 873 = .ok (.iconst 0, 1) := decs_at DL_law_528 10 rfl
theorem dL_law_874 : decode cL_law 874 = .ok (.ireturn, 1) := decs_at DL_law_528 11 rfl
theorem dL_law_875 : decode cL_law 875 = .ok (.aload_n 1, 1) := decs_at DL_law_528 12 rfl
theorem dL_law_876 : decode cL_law 876 = .ok (.aload_n 0, 1) := decs_at DL_law_528 13 rfl
theorem dL_law_877 : decode cL_law 877 = .ok (.iload 4, 2) := decs_at DL_law_528 14 rfl
theorem dL_law_879 : decode cL_law 879 = .ok (.iconst 1, 1) := decs_at DL_law_528 15 rfl
theorem dL_law_880 : decode cL_law 880 = .ok (.iadd, 1) := decs_at DL_law_528 16 rfl
theorem dL_law_881 : decode cL_law 881 = .ok (.iaload, 1) := decs_at DL_law_528 17 rfl
theorem dL_law_882 : decode cL_law 882 = .ok (.invokevirtual 101, 3) := decs_at DL_law_528 18 rfl
theorem dL_law_885 : decode cL_law 885 = .ok (.aload_n 2, 1) := decs_at DL_law_528 19 rfl
theorem dL_law_886 : decode cL_law 886 = .ok (.aload_n 0, 1) := decs_at DL_law_528 20 rfl
theorem dL_law_887 : decode cL_law 887 = .ok (.iload 4, 2) := decs_at DL_law_528 21 rfl
theorem dL_law_889 : decode cL_law 889 = .ok (.iconst 1, 1) := decs_at DL_law_528 22 rfl
theorem dL_law_890 : decode cL_law 890 = .ok (.iadd, 1) := decs_at DL_law_528 23 rfl
theorem DL_law_552 : decs cL_law [(891, .iaload, 1), (892, .invokevirtual 104, 3), (895, .if_icmp .eq 209, 3), (898, .iconst 0, 1), (899, .ireturn, 1), (900, .aload_n 1, 1), (901, .aload_n 0, 1), (902, .iload 4, 2), (904, .iconst 1, 1), (905, .iadd, 1), (906, .iaload, 1), (907, .invokevirtual 105, 3), (910, .aload_n 2, 1), (911, .aload_n 0, 1), (912, .iload 4, 2), (914, .iconst 1, 1), (915, .iadd, 1), (916, .iaload, 1), (917, .invokevirtual 108, 3), (920, .if_icmp .eq 184, 3), (923, .iconst 0, 1), (924, .ireturn, 1), (925, .aload_n 1, 1), (926, .aload_n 0, 1)] := by unfold decs; decide +kernel
theorem dL_law_891 : decode cL_law 891 = .ok (.iaload, 1) := decs_at DL_law_552 0 rfl
theorem dL_law_892 : decode cL_law 892 = .ok (.invokevirtual 104, 3) := decs_at DL_law_552 1 rfl
theorem dL_law_895 : decode cL_law 895 = .ok (.if_icmp .eq 209, 3) := decs_at DL_law_552 2 rfl
theorem dL_law_898 : decode cL_law 898 = .ok (.iconst 0, 1) := decs_at DL_law_552 3 rfl
theorem dL_law_899 : decode cL_law 899 = .ok (.ireturn, 1) := decs_at DL_law_552 4 rfl
theorem dL_law_900 : decode cL_law 900 = .ok (.aload_n 1, 1) := decs_at DL_law_552 5 rfl
theorem dL_law_901 : decode cL_law 901 = .ok (.aload_n 0, 1) := decs_at DL_law_552 6 rfl
theorem dL_law_902 : decode cL_law 902 = .ok (.iload 4, 2) := decs_at DL_law_552 7 rfl
theorem dL_law_904 : decode cL_law 904 = .ok (.iconst 1, 1) := decs_at DL_law_552 8 rfl
theorem dL_law_905 : decode cL_law 905 = .ok (.iadd, 1) := decs_at DL_law_552 9 rfl
theorem dL_law_906 : decode cL_law 906 = .ok (.iaload, 1) := decs_at DL_law_552 10 rfl
theorem dL_law_907 : decode cL_law 907 = .ok (.invokevirtual 105, 3) := decs_at DL_law_552 11 rfl
theorem dL_law_910 : decode cL_law 910 = .ok (.aload_n 2, 1) := decs_at DL_law_552 12 rfl
theorem dL_law_911 : decode cL_law 911 = .ok (.aload_n 0, 1) := decs_at DL_law_552 13 rfl
theorem dL_law_912 : decode cL_law 912 = .ok (.iload 4, 2) := decs_at DL_law_552 14 rfl
theorem dL_law_914 : decode cL_law 914 = .ok (.iconst 1, 1) := decs_at DL_law_552 15 rfl
theorem dL_law_915 : decode cL_law 915 = .ok (.iadd, 1) := decs_at DL_law_552 16 rfl
theorem dL_law_916 : decode cL_law 916 = .ok (.iaload, 1) := decs_at DL_law_552 17 rfl
theorem dL_law_917 : decode cL_law 917 = .ok (.invokevirtual 108, 3) := decs_at DL_law_552 18 rfl
theorem dL_law_920 : decode cL_law 920 = .ok (.if_icmp .eq 184, 3) := decs_at DL_law_552 19 rfl
theorem dL_law_923 : decode cL_law 923 = .ok (.iconst 0, 1) := decs_at DL_law_552 20 rfl
theorem dL_law_924 : decode cL_law 924 = .ok (.ireturn, 1) := decs_at DL_law_552 21 rfl
theorem dL_law_925 : decode cL_law 925 = .ok (.aload_n 1, 1) := decs_at DL_law_552 22 rfl
theorem dL_law_926 : decode cL_law 926 = .ok (.aload_n 0, 1) := decs_at DL_law_552 23 rfl
theorem DL_law_576 : decs cL_law [(927, .iload 4, 2), (929, .iconst 1, 1), (930, .iadd, 1), (931, .iaload, 1), (932, .invokevirtual 109, 3), (935, .aload_n 2, 1), (936, .aload_n 0, 1), (937, .iload 4, 2), (939, .iconst 1, 1), (940, .iadd, 1), (941, .iaload, 1), (942, .invokevirtual 112, 3), (945, .if_icmp .eq 159, 3), (948, .iconst 0, 1), (949, .ireturn, 1), (950, .aload_n 1, 1), (951, .aload_n 0, 1), (952, .iload 4, 2), (954, .iconst 1, 1), (955, .iadd, 1), (956, .iaload, 1), (957, .ifCond .eq 7, 3), (960, .iconst 1, 1), (961, .goto 4, 3)] := by unfold decs; decide +kernel
theorem dL_law_927 : decode cL_law 927 = .ok (.iload 4, 2) := decs_at DL_law_576 0 rfl
theorem dL_law_929 : decode cL_law 929 = .ok (.iconst 1, 1) := decs_at DL_law_576 1 rfl
theorem dL_law_930 : decode cL_law 930 = .ok (.iadd, 1) := decs_at DL_law_576 2 rfl
theorem dL_law_931 : decode cL_law 931 = .ok (.iaload, 1) := decs_at DL_law_576 3 rfl
theorem dL_law_932 : decode cL_law 932 = .ok (.invokevirtual 109, 3) := decs_at DL_law_576 4 rfl
theorem dL_law_935 : decode cL_law 935 = .ok (.aload_n 2, 1) := decs_at DL_law_576 5 rfl
theorem dL_law_936 : decode cL_law 936 = .ok (.aload_n 0, 1) := decs_at DL_law_576 6 rfl
theorem dL_law_937 : decode cL_law 937 = .ok (.iload 4, 2) := decs_at DL_law_576 7 rfl
theorem dL_law_939 : decode cL_law 939 = .ok (.iconst 1, 1) := decs_at DL_law_576 8 rfl
theorem dL_law_940 : decode cL_law 940 = .ok (.iadd, 1) := decs_at DL_law_576 9 rfl
theorem dL_law_941 : decode cL_law 941 = .ok (.iaload, 1) := decs_at DL_law_576 10 rfl
theorem dL_law_942 : decode cL_law 942 = .ok (.invokevirtual 112, 3) := decs_at DL_law_576 11 rfl
theorem dL_law_945 : decode cL_law 945 = .ok (.if_icmp .eq 159, 3) := decs_at DL_law_576 12 rfl
theorem dL_law_948 : decode cL_law 948 = .ok (.iconst 0, 1) := decs_at DL_law_576 13 rfl
theorem dL_law_949 : decode cL_law 949 = .ok (.ireturn, 1) := decs_at DL_law_576 14 rfl
theorem dL_law_950 : decode cL_law 950 = .ok (.aload_n 1, 1) := decs_at DL_law_576 15 rfl
theorem dL_law_951 : decode cL_law 951 = .ok (.aload_n 0, 1) := decs_at DL_law_576 16 rfl
theorem dL_law_952 : decode cL_law 952 = .ok (.iload 4, 2) := decs_at DL_law_576 17 rfl
theorem dL_law_954 : decode cL_law 954 = .ok (.iconst 1, 1) := decs_at DL_law_576 18 rfl
theorem dL_law_955 : decode cL_law 955 = .ok (.iadd, 1) := decs_at DL_law_576 19 rfl
theorem dL_law_956 : decode cL_law 956 = .ok (.iaload, 1) := decs_at DL_law_576 20 rfl
theorem dL_law_957 : decode cL_law 957 = .ok (.ifCond .eq 7, 3) := decs_at DL_law_576 21 rfl
theorem dL_law_960 : decode cL_law 960 = .ok (.iconst 1, 1) := decs_at DL_law_576 22 rfl
theorem dL_law_961 : decode cL_law 961 = .ok (.goto 4, 3) := decs_at DL_law_576 23 rfl
theorem DL_law_600 : decs cL_law [(964, .iconst 0, 1), (965, .invokevirtual 113, 3), (968, .aload_n 2, 1), (969, .aload_n 0, 1), (970, .iload 4, 2), (972, .iconst 1, 1), (973, .iadd, 1), (974, .iaload, 1), (975, .ifCond .eq 7, 3), (978, .iconst 1, 1), (979, .goto 4, 3), (982, .iconst 0, 1), (983, .invokevirtual 117, 3), (986, .if_icmp .eq 118, 3), (989, .iconst 0, 1), (990, .ireturn, 1), (991, .aload_n 1, 1), (992, .aload_n 0, 1), (993, .iload 4, 2), (995, .iconst 1, 1), (996, .iadd, 1), (997, .iaload, 1), (998, .invokevirtual 118, 3), (1001, .aload_n 2, 1)] := by unfold decs; decide +kernel
theorem dL_law_964 : decode cL_law 964 = .ok (.iconst 0, 1) := decs_at DL_law_600 0 rfl
theorem dL_law_965 : decode cL_law 965 = .ok (.invokevirtual 113, 3) := decs_at DL_law_600 1 rfl
theorem dL_law_968 : decode cL_law 968 = .ok (.aload_n 2, 1) := decs_at DL_law_600 2 rfl
theorem dL_law_969 : decode cL_law 969 = .ok (.aload_n 0, 1) := decs_at DL_law_600 3 rfl
theorem dL_law_970 : decode cL_law 970 = .ok (.iload 4, 2) := decs_at DL_law_600 4 rfl
theorem dL_law_972 : decode cL_law 972 = .ok (.iconst 1, 1) := decs_at DL_law_600 5 rfl
theorem dL_law_973 : decode cL_law 973 = .ok (.iadd, 1) := decs_at DL_law_600 6 rfl
theorem dL_law_974 : decode cL_law 974 = .ok (.iaload, 1) := decs_at DL_law_600 7 rfl
theorem dL_law_975 : decode cL_law 975 = .ok (.ifCond .eq 7, 3) := decs_at DL_law_600 8 rfl
theorem dL_law_978 : decode cL_law 978 = .ok (.iconst 1, 1) := decs_at DL_law_600 9 rfl
theorem dL_law_979 : decode cL_law 979 = .ok (.goto 4, 3) := decs_at DL_law_600 10 rfl
theorem dL_law_982 : decode cL_law 982 = .ok (.iconst 0, 1) := decs_at DL_law_600 11 rfl
theorem dL_law_983 : decode cL_law 983 = .ok (.invokevirtual 117, 3) := decs_at DL_law_600 12 rfl
theorem dL_law_986 : decode cL_law 986 = .ok (.if_icmp .eq 118, 3) := decs_at DL_law_600 13 rfl
theorem dL_law_989 : decode cL_law 989 = .ok (.iconst 0, 1) := decs_at DL_law_600 14 rfl
theorem dL_law_990 : decode cL_law 990 = .ok (.ireturn, 1) := decs_at DL_law_600 15 rfl
theorem dL_law_991 : decode cL_law 991 = .ok (.aload_n 1, 1) := decs_at DL_law_600 16 rfl
theorem dL_law_992 : decode cL_law 992 = .ok (.aload_n 0, 1) := decs_at DL_law_600 17 rfl
theorem dL_law_993 : decode cL_law 993 = .ok (.iload 4, 2) := decs_at DL_law_600 18 rfl
theorem dL_law_995 : decode cL_law 995 = .ok (.iconst 1, 1) := decs_at DL_law_600 19 rfl
theorem dL_law_996 : decode cL_law 996 = .ok (.iadd, 1) := decs_at DL_law_600 20 rfl
theorem dL_law_997 : decode cL_law 997 = .ok (.iaload, 1) := decs_at DL_law_600 21 rfl
theorem dL_law_998 : decode cL_law 998 = .ok (.invokevirtual 118, 3) := decs_at DL_law_600 22 rfl
theorem dL_law_1001 : decode cL_law 1001 = .ok (.aload_n 2, 1) := decs_at DL_law_600 23 rfl
theorem DL_law_624 : decs cL_law [(1002, .aload_n 0, 1), (1003, .iload 4, 2), (1005, .iconst 1, 1), (1006, .iadd, 1), (1007, .iaload, 1), (1008, .invokevirtual 121, 3), (1011, .if_icmp .eq 93, 3), (1014, .iconst 0, 1), (1015, .ireturn, 1), (1016, .aload_n 1, 1), (1017, .aload_n 0, 1), (1018, .iload 4, 2), (1020, .iconst 1, 1), (1021, .iadd, 1), (1022, .iaload, 1), (1023, .invokevirtual 122, 3), (1026, .aload_n 2, 1), (1027, .aload_n 0, 1), (1028, .iload 4, 2), (1030, .iconst 1, 1), (1031, .iadd, 1), (1032, .iaload, 1), (1033, .invokevirtual 125, 3), (1036, .if_icmp .eq 68, 3)] := by unfold decs; decide +kernel
theorem dL_law_1002 : decode cL_law 1002 = .ok (.aload_n 0, 1) := decs_at DL_law_624 0 rfl
theorem dL_law_1003 : decode cL_law 1003 = .ok (.iload 4, 2) := decs_at DL_law_624 1 rfl
theorem dL_law_1005 : decode cL_law 1005 = .ok (.iconst 1, 1) := decs_at DL_law_624 2 rfl
theorem dL_law_1006 : decode cL_law 1006 = .ok (.iadd, 1) := decs_at DL_law_624 3 rfl
theorem dL_law_1007 : decode cL_law 1007 = .ok (.iaload, 1) := decs_at DL_law_624 4 rfl
theorem dL_law_1008 : decode cL_law 1008 = .ok (.invokevirtual 121, 3) := decs_at DL_law_624 5 rfl
theorem dL_law_1011 : decode cL_law 1011 = .ok (.if_icmp .eq 93, 3) := decs_at DL_law_624 6 rfl
theorem dL_law_1014 : decode cL_law 1014 = .ok (.iconst 0, 1) := decs_at DL_law_624 7 rfl
theorem dL_law_1015 : decode cL_law 1015 = .ok (.ireturn, 1) := decs_at DL_law_624 8 rfl
theorem dL_law_1016 : decode cL_law 1016 = .ok (.aload_n 1, 1) := decs_at DL_law_624 9 rfl
theorem dL_law_1017 : decode cL_law 1017 = .ok (.aload_n 0, 1) := decs_at DL_law_624 10 rfl
theorem dL_law_1018 : decode cL_law 1018 = .ok (.iload 4, 2) := decs_at DL_law_624 11 rfl
theorem dL_law_1020 : decode cL_law 1020 = .ok (.iconst 1, 1) := decs_at DL_law_624 12 rfl
theorem dL_law_1021 : decode cL_law 1021 = .ok (.iadd, 1) := decs_at DL_law_624 13 rfl
theorem dL_law_1022 : decode cL_law 1022 = .ok (.iaload, 1) := decs_at DL_law_624 14 rfl
theorem dL_law_1023 : decode cL_law 1023 = .ok (.invokevirtual 122, 3) := decs_at DL_law_624 15 rfl
theorem dL_law_1026 : decode cL_law 1026 = .ok (.aload_n 2, 1) := decs_at DL_law_624 16 rfl
theorem dL_law_1027 : decode cL_law 1027 = .ok (.aload_n 0, 1) := decs_at DL_law_624 17 rfl
theorem dL_law_1028 : decode cL_law 1028 = .ok (.iload 4, 2) := decs_at DL_law_624 18 rfl
theorem dL_law_1030 : decode cL_law 1030 = .ok (.iconst 1, 1) := decs_at DL_law_624 19 rfl
theorem dL_law_1031 : decode cL_law 1031 = .ok (.iadd, 1) := decs_at DL_law_624 20 rfl
theorem dL_law_1032 : decode cL_law 1032 = .ok (.iaload, 1) := decs_at DL_law_624 21 rfl
theorem dL_law_1033 : decode cL_law 1033 = .ok (.invokevirtual 125, 3) := decs_at DL_law_624 22 rfl
theorem dL_law_1036 : decode cL_law 1036 = .ok (.if_icmp .eq 68, 3) := decs_at DL_law_624 23 rfl
theorem DL_law_648 : decs cL_law [(1039, .iconst 0, 1), (1040, .ireturn, 1), (1041, .aload_n 1, 1), (1042, .aload_n 0, 1), (1043, .iload 4, 2), (1045, .iconst 1, 1), (1046, .iadd, 1), (1047, .iaload, 1), (1048, .invokevirtual 126, 3), (1051, .aload_n 2, 1), (1052, .aload_n 0, 1), (1053, .iload 4, 2), (1055, .iconst 1, 1), (1056, .iadd, 1), (1057, .iaload, 1), (1058, .invokevirtual 129, 3), (1061, .if_icmp .eq 43, 3), (1064, .iconst 0, 1), (1065, .ireturn, 1), (1066, .aload_n 1, 1), (1067, .invokevirtual 130, 3), (1070, .aload_n 2, 1), (1071, .invokevirtual 133, 3), (1074, .if_icmp .eq 30, 3)] := by unfold decs; decide +kernel
theorem dL_law_1039 : decode cL_law 1039 = .ok (.iconst 0, 1) := decs_at DL_law_648 0 rfl
theorem dL_law_1040 : decode cL_law 1040 = .ok (.ireturn, 1) := decs_at DL_law_648 1 rfl
theorem dL_law_1041 : decode cL_law 1041 = .ok (.aload_n 1, 1) := decs_at DL_law_648 2 rfl
theorem dL_law_1042 : decode cL_law 1042 = .ok (.aload_n 0, 1) := decs_at DL_law_648 3 rfl
theorem dL_law_1043 : decode cL_law 1043 = .ok (.iload 4, 2) := decs_at DL_law_648 4 rfl
theorem dL_law_1045 : decode cL_law 1045 = .ok (.iconst 1, 1) := decs_at DL_law_648 5 rfl
theorem dL_law_1046 : decode cL_law 1046 = .ok (.iadd, 1) := decs_at DL_law_648 6 rfl
theorem dL_law_1047 : decode cL_law 1047 = .ok (.iaload, 1) := decs_at DL_law_648 7 rfl
theorem dL_law_1048 : decode cL_law 1048 = .ok (.invokevirtual 126, 3) := decs_at DL_law_648 8 rfl
theorem dL_law_1051 : decode cL_law 1051 = .ok (.aload_n 2, 1) := decs_at DL_law_648 9 rfl
theorem dL_law_1052 : decode cL_law 1052 = .ok (.aload_n 0, 1) := decs_at DL_law_648 10 rfl
theorem dL_law_1053 : decode cL_law 1053 = .ok (.iload 4, 2) := decs_at DL_law_648 11 rfl
theorem dL_law_1055 : decode cL_law 1055 = .ok (.iconst 1, 1) := decs_at DL_law_648 12 rfl
theorem dL_law_1056 : decode cL_law 1056 = .ok (.iadd, 1) := decs_at DL_law_648 13 rfl
theorem dL_law_1057 : decode cL_law 1057 = .ok (.iaload, 1) := decs_at DL_law_648 14 rfl
theorem dL_law_1058 : decode cL_law 1058 = .ok (.invokevirtual 129, 3) := decs_at DL_law_648 15 rfl
theorem dL_law_1061 : decode cL_law 1061 = .ok (.if_icmp .eq 43, 3) := decs_at DL_law_648 16 rfl
theorem dL_law_1064 : decode cL_law 1064 = .ok (.iconst 0, 1) := decs_at DL_law_648 17 rfl
theorem dL_law_1065 : decode cL_law 1065 = .ok (.ireturn, 1) := decs_at DL_law_648 18 rfl
theorem dL_law_1066 : decode cL_law 1066 = .ok (.aload_n 1, 1) := decs_at DL_law_648 19 rfl
theorem dL_law_1067 : decode cL_law 1067 = .ok (.invokevirtual 130, 3) := decs_at DL_law_648 20 rfl
theorem dL_law_1070 : decode cL_law 1070 = .ok (.aload_n 2, 1) := decs_at DL_law_648 21 rfl
theorem dL_law_1071 : decode cL_law 1071 = .ok (.invokevirtual 133, 3) := decs_at DL_law_648 22 rfl
theorem dL_law_1074 : decode cL_law 1074 = .ok (.if_icmp .eq 30, 3) := decs_at DL_law_648 23 rfl
theorem DL_law_672 : decs cL_law [(1077, .iconst 0, 1), (1078, .ireturn, 1), (1079, .aload_n 1, 1), (1080, .aload_n 0, 1), (1081, .iload 4, 2), (1083, .iconst 1, 1), (1084, .iadd, 1), (1085, .iaload, 1), (1086, .invokevirtual 134, 3), (1089, .aload_n 2, 1), (1090, .aload_n 0, 1), (1091, .iload 4, 2), (1093, .iconst 1, 1), (1094, .iadd, 1), (1095, .iaload, 1), (1096, .invokevirtual 137, 3), (1099, .if_icmp .eq 5, 3), (1102, .iconst 0, 1), (1103, .ireturn, 1), (1104, .iinc 4 6, 3), (1107, .goto (-1084), 3), (1110, .iconst 1, 1), (1111, .ireturn, 1)] := by unfold decs; decide +kernel
theorem dL_law_1077 : decode cL_law 1077 = .ok (.iconst 0, 1) := decs_at DL_law_672 0 rfl
theorem dL_law_1078 : decode cL_law 1078 = .ok (.ireturn, 1) := decs_at DL_law_672 1 rfl
theorem dL_law_1079 : decode cL_law 1079 = .ok (.aload_n 1, 1) := decs_at DL_law_672 2 rfl
theorem dL_law_1080 : decode cL_law 1080 = .ok (.aload_n 0, 1) := decs_at DL_law_672 3 rfl
theorem dL_law_1081 : decode cL_law 1081 = .ok (.iload 4, 2) := decs_at DL_law_672 4 rfl
theorem dL_law_1083 : decode cL_law 1083 = .ok (.iconst 1, 1) := decs_at DL_law_672 5 rfl
theorem dL_law_1084 : decode cL_law 1084 = .ok (.iadd, 1) := decs_at DL_law_672 6 rfl
theorem dL_law_1085 : decode cL_law 1085 = .ok (.iaload, 1) := decs_at DL_law_672 7 rfl
theorem dL_law_1086 : decode cL_law 1086 = .ok (.invokevirtual 134, 3) := decs_at DL_law_672 8 rfl
theorem dL_law_1089 : decode cL_law 1089 = .ok (.aload_n 2, 1) := decs_at DL_law_672 9 rfl
theorem dL_law_1090 : decode cL_law 1090 = .ok (.aload_n 0, 1) := decs_at DL_law_672 10 rfl
theorem dL_law_1091 : decode cL_law 1091 = .ok (.iload 4, 2) := decs_at DL_law_672 11 rfl
theorem dL_law_1093 : decode cL_law 1093 = .ok (.iconst 1, 1) := decs_at DL_law_672 12 rfl
theorem dL_law_1094 : decode cL_law 1094 = .ok (.iadd, 1) := decs_at DL_law_672 13 rfl
theorem dL_law_1095 : decode cL_law 1095 = .ok (.iaload, 1) := decs_at DL_law_672 14 rfl
theorem dL_law_1096 : decode cL_law 1096 = .ok (.invokevirtual 137, 3) := decs_at DL_law_672 15 rfl
theorem dL_law_1099 : decode cL_law 1099 = .ok (.if_icmp .eq 5, 3) := decs_at DL_law_672 16 rfl
theorem dL_law_1102 : decode cL_law 1102 = .ok (.iconst 0, 1) := decs_at DL_law_672 17 rfl
theorem dL_law_1103 : decode cL_law 1103 = .ok (.ireturn, 1) := decs_at DL_law_672 18 rfl
theorem dL_law_1104 : decode cL_law 1104 = .ok (.iinc 4 6, 3) := decs_at DL_law_672 19 rfl
theorem dL_law_1107 : decode cL_law 1107 = .ok (.goto (-1084), 3) := decs_at DL_law_672 20 rfl
theorem dL_law_1110 : decode cL_law 1110 = .ok (.iconst 1, 1) := decs_at DL_law_672 21 rfl
theorem dL_law_1111 : decode cL_law 1111 = .ok (.ireturn, 1) := decs_at DL_law_672 22 rfl
