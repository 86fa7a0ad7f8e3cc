set_option maxRecDepth 20000 in
theorem tp_17 : Cond.selects "CentrifugeUnitModel" ⟨"CentrifugeUnitModel", "read", "(I)V"⟩ ⟨"CentrifugeUnitModel", "read", "(I)V"⟩ ∈ xw := xw_of (List.mem_append_left _ (List.mem_of_getElem? (i := 17) (by decide +kernel))) rfl
set_option maxRecDepth 20000 in
theorem tw_1011 : Cond.constantLong "CentrifugeUnitModel" 183 (60000 : Int64) ∈ xw := xw_of (List.mem_append_right _ (List.mem_of_getElem? (i := 1011) (by decide +kernel))) rfl
set_option maxRecDepth 20000 in
theorem tw_1012 : Cond.constantLong "CentrifugeUnitModel" 185 (60000000000 : Int64) ∈ xw := xw_of (List.mem_append_right _ (List.mem_of_getElem? (i := 1012) (by decide +kernel))) rfl
set_option maxRecDepth 20000 in
theorem tw_1013 : Cond.constantLong "CentrifugeUnitModel" 187 (60000000 : Int64) ∈ xw := xw_of (List.mem_append_right _ (List.mem_of_getElem? (i := 1013) (by decide +kernel))) rfl
set_option maxRecDepth 20000 in
theorem tw_1015 : Cond.constantLong "CentrifugeUnitModel" 200 (20 : Int64) ∈ xw := xw_of (List.mem_append_right _ (List.mem_of_getElem? (i := 1015) (by decide +kernel))) rfl
set_option maxRecDepth 20000 in
theorem tw_1016 : Cond.constantLong "CentrifugeUnitModel" 205 (300000 : Int64) ∈ xw := xw_of (List.mem_append_right _ (List.mem_of_getElem? (i := 1016) (by decide +kernel))) rfl
set_option maxRecDepth 20000 in
theorem tw_1017 : Cond.methodLink "CentrifugeUnitModel" 207 ⟨"CentrifugeUnitModel", "read", "(I)V"⟩ ∈ xw := xw_of (List.mem_append_right _ (List.mem_of_getElem? (i := 1017) (by decide +kernel))) rfl
set_option maxRecDepth 20000 in
theorem tw_1019 : Cond.instanceMethod ⟨"CentrifugeUnitModel", "read", "(I)V"⟩ ∈ xw := xw_of (List.mem_append_right _ (List.mem_of_getElem? (i := 1019) (by decide +kernel))) rfl
set_option maxRecDepth 20000 in
theorem tw_1020 : Cond.code ⟨"CentrifugeUnitModel", "read", "(I)V"⟩ prog_12_method_20_code 4 (Option.none : Option Jvm.ClassFile.FieldType) ∈ xw := xw_of (List.mem_append_right _ (List.mem_of_getElem? (i := 1020) (by decide +kernel))) rfl
abbrev bc_R_sense : ByteArray := prog_12_method_19_code
def y_R_sense : MethodName := ⟨"CentrifugeUnitModel", "sense", "()V"⟩
theorem d_R_sense_0 : decode bc_R_sense 0 = .ok (.aload_n 0, 1) := by decide +kernel
theorem d_R_sense_1 : decode bc_R_sense 1 = .ok (.getfield 39, 3) := by decide +kernel
theorem d_R_sense_4 : decode bc_R_sense 4 = .ok (.ifCond .lt 11, 3) := by decide +kernel
theorem d_R_sense_7 : decode bc_R_sense 7 = .ok (.aload_n 0, 1) := by decide +kernel
theorem d_R_sense_8 : decode bc_R_sense 8 = .ok (.getfield 39, 3) := by decide +kernel
theorem d_R_sense_11 : decode bc_R_sense 11 = .ok (.i2l, 1) := by decide +kernel
theorem d_R_sense_12 : decode bc_R_sense 12 = .ok (.goto 26, 3) := by decide +kernel
theorem d_R_sense_15 : decode bc_R_sense 15 = .ok (.aload_n 0, 1) := by decide +kernel
theorem d_R_sense_16 : decode bc_R_sense 16 = .ok (.getfield 180, 3) := by decide +kernel
theorem d_R_sense_19 : decode bc_R_sense 19 = .ok (.ldc2_w 183, 3) := by decide +kernel
theorem d_R_sense_22 : decode bc_R_sense 22 = .ok (.lcmp, 1) := by decide +kernel
theorem d_R_sense_23 : decode bc_R_sense 23 = .ok (.ifCond .ge 7, 3) := by decide +kernel
theorem d_R_sense_26 : decode bc_R_sense 26 = .ok (.lconst 0, 1) := by decide +kernel
theorem d_R_sense_27 : decode bc_R_sense 27 = .ok (.goto 11, 3) := by decide +kernel
theorem d_R_sense_30 : decode bc_R_sense 30 = .ok (.ldc2_w 185, 3) := by decide +kernel
theorem d_R_sense_33 : decode bc_R_sense 33 = .ok (.aload_n 0, 1) := by decide +kernel
theorem d_R_sense_34 : decode bc_R_sense 34 = .ok (.getfield 180, 3) := by decide +kernel
theorem d_R_sense_37 : decode bc_R_sense 37 = .ok (.ldiv, 1) := by decide +kernel
theorem d_R_sense_38 : decode bc_R_sense 38 = .ok (.lstore_n 1, 1) := by decide +kernel
theorem d_R_sense_39 : decode bc_R_sense 39 = .ok (.aload_n 0, 1) := by decide +kernel
theorem d_R_sense_40 : decode bc_R_sense 40 = .ok (.getfield 42, 3) := by decide +kernel
theorem d_R_sense_43 : decode bc_R_sense 43 = .ok (.ifCond .lt 11, 3) := by decide +kernel
theorem d_R_sense_46 : decode bc_R_sense 46 = .ok (.aload_n 0, 1) := by decide +kernel
theorem d_R_sense_47 : decode bc_R_sense 47 = .ok (.getfield 42, 3) := by decide +kernel
theorem d_R_sense_50 : decode bc_R_sense 50 = .ok (.i2l, 1) := by decide +kernel
theorem d_R_sense_51 : decode bc_R_sense 51 = .ok (.goto 11, 3) := by decide +kernel
theorem d_R_sense_54 : decode bc_R_sense 54 = .ok (.aload_n 0, 1) := by decide +kernel
theorem d_R_sense_55 : decode bc_R_sense 55 = .ok (.getfield 180, 3) := by decide +kernel
theorem d_R_sense_58 : decode bc_R_sense 58 = .ok (.ldc2_w 163, 3) := by decide +kernel
theorem d_R_sense_61 : decode bc_R_sense 61 = .ok (.ldiv, 1) := by decide +kernel
theorem d_R_sense_62 : decode bc_R_sense 62 = .ok (.lstore_n 3, 1) := by decide +kernel
theorem d_R_sense_63 : decode bc_R_sense 63 = .ok (.aload_n 0, 1) := by decide +kernel
theorem d_R_sense_64 : decode bc_R_sense 64 = .ok (.lload_n 1, 1) := by decide +kernel
theorem d_R_sense_65 : decode bc_R_sense 65 = .ok (.lconst 0, 1) := by decide +kernel
theorem d_R_sense_66 : decode bc_R_sense 66 = .ok (.lcmp, 1) := by decide +kernel
theorem d_R_sense_67 : decode bc_R_sense 67 = .ok (.ifCond .ne 7, 3) := by decide +kernel
theorem d_R_sense_70 : decode bc_R_sense 70 = .ok (.lconst 0, 1) := by decide +kernel
theorem d_R_sense_71 : decode bc_R_sense 71 = .ok (.goto 8, 3) := by decide +kernel
theorem d_R_sense_74 : decode bc_R_sense 74 = .ok (.ldc2_w 187, 3) := by decide +kernel
theorem d_R_sense_77 : decode bc_R_sense 77 = .ok (.lload_n 1, 1) := by decide +kernel
theorem d_R_sense_78 : decode bc_R_sense 78 = .ok (.ldiv, 1) := by decide +kernel
theorem d_R_sense_79 : decode bc_R_sense 79 = .ok (.putfield 189, 3) := by decide +kernel
theorem d_R_sense_82 : decode bc_R_sense 82 = .ok (.aload_n 0, 1) := by decide +kernel
theorem d_R_sense_83 : decode bc_R_sense 83 = .ok (.ldc2_w 85, 3) := by decide +kernel
theorem d_R_sense_86 : decode bc_R_sense 86 = .ok (.lload_n 3, 1) := by decide +kernel
theorem d_R_sense_87 : decode bc_R_sense 87 = .ok (.lmul, 1) := by decide +kernel
theorem d_R_sense_88 : decode bc_R_sense 88 = .ok (.putfield 192, 3) := by decide +kernel
theorem d_R_sense_91 : decode bc_R_sense 91 = .ok (.aload_n 0, 1) := by decide +kernel
theorem d_R_sense_92 : decode bc_R_sense 92 = .ok (.aload_n 0, 1) := by decide +kernel
theorem d_R_sense_93 : decode bc_R_sense 93 = .ok (.getfield 189, 3) := by decide +kernel
theorem d_R_sense_96 : decode bc_R_sense 96 = .ok (.ldc2_w 106, 3) := by decide +kernel
theorem d_R_sense_99 : decode bc_R_sense 99 = .ok (.lcmp, 1) := by decide +kernel
theorem d_R_sense_100 : decode bc_R_sense 100 = .ok (.ifCond .ge 10, 3) := by decide +kernel
theorem d_R_sense_103 : decode bc_R_sense 103 = .ok (.aload_n 0, 1) := by decide +kernel
theorem d_R_sense_104 : decode bc_R_sense 104 = .ok (.getfield 189, 3) := by decide +kernel
theorem d_R_sense_107 : decode bc_R_sense 107 = .ok (.goto 6, 3) := by decide +kernel
theorem d_R_sense_110 : decode bc_R_sense 110 = .ok (.ldc2_w 106, 3) := by decide +kernel
theorem d_R_sense_113 : decode bc_R_sense 113 = .ok (.putfield 189, 3) := by decide +kernel
theorem d_R_sense_116 : decode bc_R_sense 116 = .ok (.aload_n 0, 1) := by decide +kernel
theorem d_R_sense_117 : decode bc_R_sense 117 = .ok (.aload_n 0, 1) := by decide +kernel
theorem d_R_sense_118 : decode bc_R_sense 118 = .ok (.getfield 192, 3) := by decide +kernel
theorem d_R_sense_121 : decode bc_R_sense 121 = .ok (.ldc2_w 106, 3) := by decide +kernel
theorem d_R_sense_124 : decode bc_R_sense 124 = .ok (.lcmp, 1) := by decide +kernel
theorem d_R_sense_125 : decode bc_R_sense 125 = .ok (.ifCond .ge 10, 3) := by decide +kernel
theorem d_R_sense_128 : decode bc_R_sense 128 = .ok (.aload_n 0, 1) := by decide +kernel
theorem d_R_sense_129 : decode bc_R_sense 129 = .ok (.getfield 192, 3) := by decide +kernel
theorem d_R_sense_132 : decode bc_R_sense 132 = .ok (.goto 6, 3) := by decide +kernel
theorem d_R_sense_135 : decode bc_R_sense 135 = .ok (.ldc2_w 106, 3) := by decide +kernel
theorem d_R_sense_138 : decode bc_R_sense 138 = .ok (.putfield 192, 3) := by decide +kernel
theorem d_R_sense_141 : decode bc_R_sense 141 = .ok (.aload_n 0, 1) := by decide +kernel
theorem d_R_sense_142 : decode bc_R_sense 142 = .ok (.aload_n 0, 1) := by decide +kernel
theorem d_R_sense_143 : decode bc_R_sense 143 = .ok (.getfield 189, 3) := by decide +kernel
theorem d_R_sense_146 : decode bc_R_sense 146 = .ok (.aload_n 0, 1) := by decide +kernel
theorem d_R_sense_147 : decode bc_R_sense 147 = .ok (.getfield 192, 3) := by decide +kernel
theorem d_R_sense_150 : decode bc_R_sense 150 = .ok (.lcmp, 1) := by decide +kernel
theorem d_R_sense_151 : decode bc_R_sense 151 = .ok (.ifCond .le 10, 3) := by decide +kernel
theorem d_R_sense_154 : decode bc_R_sense 154 = .ok (.aload_n 0, 1) := by decide +kernel
theorem d_R_sense_155 : decode bc_R_sense 155 = .ok (.getfield 189, 3) := by decide +kernel
theorem d_R_sense_158 : decode bc_R_sense 158 = .ok (.goto 7, 3) := by decide +kernel
theorem d_R_sense_161 : decode bc_R_sense 161 = .ok (.aload_n 0, 1) := by decide +kernel
theorem d_R_sense_162 : decode bc_R_sense 162 = .ok (.getfield 192, 3) := by decide +kernel
theorem d_R_sense_165 : decode bc_R_sense 165 = .ok (.putfield 195, 3) := by decide +kernel
theorem d_R_sense_168 : decode bc_R_sense 168 = .ok (.aload_n 0, 1) := by decide +kernel
theorem d_R_sense_169 : decode bc_R_sense 169 = .ok (.aload_n 0, 1) := by decide +kernel
theorem d_R_sense_170 : decode bc_R_sense 170 = .ok (.getfield 195, 3) := by decide +kernel
theorem d_R_sense_173 : decode bc_R_sense 173 = .ok (.lconst 0, 1) := by decide +kernel
theorem d_R_sense_174 : decode bc_R_sense 174 = .ok (.lcmp, 1) := by decide +kernel
theorem d_R_sense_175 : decode bc_R_sense 175 = .ok (.ifCond .ne 12, 3) := by decide +kernel
theorem d_R_sense_178 : decode bc_R_sense 178 = .ok (.aload_n 0, 1) := by decide +kernel
theorem d_R_sense_179 : decode bc_R_sense 179 = .ok (.getfield 74, 3) := by decide +kernel
theorem d_R_sense_182 : decode bc_R_sense 182 = .ok (.iconst 1, 1) := by decide +kernel
theorem d_R_sense_183 : decode bc_R_sense 183 = .ok (.iadd, 1) := by decide +kernel
theorem d_R_sense_184 : decode bc_R_sense 184 = .ok (.goto 4, 3) := by decide +kernel
theorem d_R_sense_187 : decode bc_R_sense 187 = .ok (.iconst 0, 1) := by decide +kernel
theorem d_R_sense_188 : decode bc_R_sense 188 = .ok (.putfield 74, 3) := by decide +kernel
theorem d_R_sense_191 : decode bc_R_sense 191 = .ok (.aload_n 0, 1) := by decide +kernel
theorem d_R_sense_192 : decode bc_R_sense 192 = .ok (.aload_n 0, 1) := by decide +kernel
theorem d_R_sense_193 : decode bc_R_sense 193 = .ok (.getfield 158, 3) := by decide +kernel
theorem d_R_sense_196 : decode bc_R_sense 196 = .ok (.i2l, 1) := by decide +kernel
theorem d_R_sense_197 : decode bc_R_sense 197 = .ok (.ldc2_w 198, 3) := by decide +kernel
theorem d_R_sense_200 : decode bc_R_sense 200 = .ok (.aload_n 0, 1) := by decide +kernel
theorem d_R_sense_201 : decode bc_R_sense 201 = .ok (.getfield 195, 3) := by decide +kernel
theorem d_R_sense_204 : decode bc_R_sense 204 = .ok (.ldc2_w 200, 3) := by decide +kernel
theorem d_R_sense_207 : decode bc_R_sense 207 = .ok (.ldiv, 1) := by decide +kernel
theorem d_R_sense_208 : decode bc_R_sense 208 = .ok (.ladd, 1) := by decide +kernel
theorem d_R_sense_209 : decode bc_R_sense 209 = .ok (.lcmp, 1) := by decide +kernel
theorem d_R_sense_210 : decode bc_R_sense 210 = .ok (.ifCond .le 12, 3) := by decide +kernel
theorem d_R_sense_213 : decode bc_R_sense 213 = .ok (.aload_n 0, 1) := by decide +kernel
theorem d_R_sense_214 : decode bc_R_sense 214 = .ok (.getfield 165, 3) := by decide +kernel
theorem d_R_sense_217 : decode bc_R_sense 217 = .ok (.iconst 1, 1) := by decide +kernel
theorem d_R_sense_218 : decode bc_R_sense 218 = .ok (.iadd, 1) := by decide +kernel
theorem d_R_sense_219 : decode bc_R_sense 219 = .ok (.goto 4, 3) := by decide +kernel
theorem d_R_sense_222 : decode bc_R_sense 222 = .ok (.iconst 0, 1) := by decide +kernel
theorem d_R_sense_223 : decode bc_R_sense 223 = .ok (.putfield 165, 3) := by decide +kernel
theorem d_R_sense_226 : decode bc_R_sense 226 = .ok (.aload_n 0, 1) := by decide +kernel
theorem d_R_sense_227 : decode bc_R_sense 227 = .ok (.getfield 189, 3) := by decide +kernel
theorem d_R_sense_230 : decode bc_R_sense 230 = .ok (.aload_n 0, 1) := by decide +kernel
theorem d_R_sense_231 : decode bc_R_sense 231 = .ok (.getfield 192, 3) := by decide +kernel
theorem d_R_sense_234 : decode bc_R_sense 234 = .ok (.lcmp, 1) := by decide +kernel
theorem d_R_sense_235 : decode bc_R_sense 235 = .ok (.ifCond .le 15, 3) := by decide +kernel
theorem d_R_sense_238 : decode bc_R_sense 238 = .ok (.aload_n 0, 1) := by decide +kernel
theorem d_R_sense_239 : decode bc_R_sense 239 = .ok (.getfield 189, 3) := by decide +kernel
theorem d_R_sense_242 : decode bc_R_sense 242 = .ok (.aload_n 0, 1) := by decide +kernel
theorem d_R_sense_243 : decode bc_R_sense 243 = .ok (.getfield 192, 3) := by decide +kernel
theorem d_R_sense_246 : decode bc_R_sense 246 = .ok (.lsub, 1) := by decide +kernel
theorem d_R_sense_247 : decode bc_R_sense 247 = .ok (.goto 12, 3) := by decide +kernel
theorem d_R_sense_250 : decode bc_R_sense 250 = .ok (.aload_n 0, 1) := by decide +kernel
theorem d_R_sense_251 : decode bc_R_sense 251 = .ok (.getfield 192, 3) := by decide +kernel
theorem d_R_sense_254 : decode bc_R_sense 254 = .ok (.aload_n 0, 1) := by decide +kernel
theorem d_R_sense_255 : decode bc_R_sense 255 = .ok (.getfield 189, 3) := by decide +kernel
theorem d_R_sense_258 : decode bc_R_sense 258 = .ok (.lsub, 1) := by decide +kernel
theorem d_R_sense_259 : decode bc_R_sense 259 = .ok (.lstore 5, 2) := by decide +kernel
theorem d_R_sense_261 : decode bc_R_sense 261 = .ok (.aload_n 0, 1) := by decide +kernel
theorem d_R_sense_262 : decode bc_R_sense 262 = .ok (.lload 5, 2) := by decide +kernel
theorem d_R_sense_264 : decode bc_R_sense 264 = .ok (.ldc2_w 89, 3) := by decide +kernel
theorem d_R_sense_267 : decode bc_R_sense 267 = .ok (.aload_n 0, 1) := by decide +kernel
theorem d_R_sense_268 : decode bc_R_sense 268 = .ok (.getfield 195, 3) := by decide +kernel
theorem d_R_sense_271 : decode bc_R_sense 271 = .ok (.ldc2_w 85, 3) := by decide +kernel
theorem d_R_sense_274 : decode bc_R_sense 274 = .ok (.ldiv, 1) := by decide +kernel
theorem d_R_sense_275 : decode bc_R_sense 275 = .ok (.ladd, 1) := by decide +kernel
theorem d_R_sense_276 : decode bc_R_sense 276 = .ok (.lcmp, 1) := by decide +kernel
theorem d_R_sense_277 : decode bc_R_sense 277 = .ok (.ifCond .le 12, 3) := by decide +kernel
theorem d_R_sense_280 : decode bc_R_sense 280 = .ok (.aload_n 0, 1) := by decide +kernel
theorem d_R_sense_281 : decode bc_R_sense 281 = .ok (.getfield 168, 3) := by decide +kernel
theorem d_R_sense_284 : decode bc_R_sense 284 = .ok (.iconst 1, 1) := by decide +kernel
theorem d_R_sense_285 : decode bc_R_sense 285 = .ok (.iadd, 1) := by decide +kernel
theorem d_R_sense_286 : decode bc_R_sense 286 = .ok (.goto 4, 3) := by decide +kernel
theorem d_R_sense_289 : decode bc_R_sense 289 = .ok (.iconst 0, 1) := by decide +kernel
theorem d_R_sense_290 : decode bc_R_sense 290 = .ok (.putfield 168, 3) := by decide +kernel
theorem d_R_sense_293 : decode bc_R_sense 293 = .ok (.aload_n 0, 1) := by decide +kernel
theorem d_R_sense_294 : decode bc_R_sense 294 = .ok (.getfield 95, 3) := by decide +kernel
theorem d_R_sense_297 : decode bc_R_sense 297 = .ok (.ifCond .eq 30, 3) := by decide +kernel
theorem d_R_sense_300 : decode bc_R_sense 300 = .ok (.aload_n 0, 1) := by decide +kernel
theorem d_R_sense_301 : decode bc_R_sense 301 = .ok (.aload_n 0, 1) := by decide +kernel
theorem d_R_sense_302 : decode bc_R_sense 302 = .ok (.getfield 195, 3) := by decide +kernel
theorem d_R_sense_305 : decode bc_R_sense 305 = .ok (.aload_n 0, 1) := by decide +kernel
theorem d_R_sense_306 : decode bc_R_sense 306 = .ok (.getfield 149, 3) := by decide +kernel
theorem d_R_sense_309 : decode bc_R_sense 309 = .ok (.lcmp, 1) := by decide +kernel
theorem d_R_sense_310 : decode bc_R_sense 310 = .ok (.ifCond .le 10, 3) := by decide +kernel
theorem d_R_sense_313 : decode bc_R_sense 313 = .ok (.aload_n 0, 1) := by decide +kernel
theorem d_R_sense_314 : decode bc_R_sense 314 = .ok (.getfield 195, 3) := by decide +kernel
theorem d_R_sense_317 : decode bc_R_sense 317 = .ok (.goto 7, 3) := by decide +kernel
theorem d_R_sense_320 : decode bc_R_sense 320 = .ok (.aload_n 0, 1) := by decide +kernel
theorem d_R_sense_321 : decode bc_R_sense 321 = .ok (.getfield 149, 3) := by decide +kernel
theorem d_R_sense_324 : decode bc_R_sense 324 = .ok (.putfield 149, 3) := by decide +kernel
theorem d_R_sense_327 : decode bc_R_sense 327 = .ok (.aload_n 0, 1) := by decide +kernel
theorem d_R_sense_328 : decode bc_R_sense 328 = .ok (.dup, 1) := by decide +kernel
theorem d_R_sense_329 : decode bc_R_sense 329 = .ok (.getfield 134, 3) := by decide +kernel
theorem d_R_sense_332 : decode bc_R_sense 332 = .ok (.aload_n 0, 1) := by decide +kernel
theorem d_R_sense_333 : decode bc_R_sense 333 = .ok (.getfield 195, 3) := by decide +kernel
theorem d_R_sense_336 : decode bc_R_sense 336 = .ok (.ladd, 1) := by decide +kernel
theorem d_R_sense_337 : decode bc_R_sense 337 = .ok (.putfield 134, 3) := by decide +kernel
theorem d_R_sense_340 : decode bc_R_sense 340 = .ok (.aload_n 0, 1) := by decide +kernel
theorem d_R_sense_341 : decode bc_R_sense 341 = .ok (.iconst 0, 1) := by decide +kernel
theorem d_R_sense_342 : decode bc_R_sense 342 = .ok (.putfield 202, 3) := by decide +kernel
theorem d_R_sense_345 : decode bc_R_sense 345 = .ok (.aload_n 0, 1) := by decide +kernel
theorem d_R_sense_346 : decode bc_R_sense 346 = .ok (.getfield 134, 3) := by decide +kernel
theorem d_R_sense_349 : decode bc_R_sense 349 = .ok (.ldc2_w 205, 3) := by decide +kernel
theorem d_R_sense_352 : decode bc_R_sense 352 = .ok (.lcmp, 1) := by decide +kernel
theorem d_R_sense_353 : decode bc_R_sense 353 = .ok (.ifCond .ge 4, 3) := by decide +kernel
theorem d_R_sense_356 : decode bc_R_sense 356 = .ok (.return_, 1) := by decide +kernel
theorem d_R_sense_357 : decode bc_R_sense 357 = .ok (.aload_n 0, 1) := by decide +kernel
theorem d_R_sense_358 : decode bc_R_sense 358 = .ok (.lconst 0, 1) := by decide +kernel
theorem d_R_sense_359 : decode bc_R_sense 359 = .ok (.putfield 134, 3) := by decide +kernel
theorem d_R_sense_362 : decode bc_R_sense 362 = .ok (.aload_n 0, 1) := by decide +kernel
theorem d_R_sense_363 : decode bc_R_sense 363 = .ok (.getfield 95, 3) := by decide +kernel
theorem d_R_sense_366 : decode bc_R_sense 366 = .ok (.iconst 1, 1) := by decide +kernel
theorem d_R_sense_367 : decode bc_R_sense 367 = .ok (.if_icmp .eq 11, 3) := by decide +kernel
theorem d_R_sense_370 : decode bc_R_sense 370 = .ok (.aload_n 0, 1) := by decide +kernel
theorem d_R_sense_371 : decode bc_R_sense 371 = .ok (.getfield 95, 3) := by decide +kernel
theorem d_R_sense_374 : decode bc_R_sense 374 = .ok (.iconst 2, 1) := by decide +kernel
theorem d_R_sense_375 : decode bc_R_sense 375 = .ok (.if_icmp .ne 39, 3) := by decide +kernel
theorem d_R_sense_378 : decode bc_R_sense 378 = .ok (.aload_n 0, 1) := by decide +kernel
theorem d_R_sense_379 : decode bc_R_sense 379 = .ok (.aload_n 0, 1) := by decide +kernel
theorem d_R_sense_380 : decode bc_R_sense 380 = .ok (.getfield 26, 3) := by decide +kernel
theorem d_R_sense_383 : decode bc_R_sense 383 = .ok (.ifCond .lt 27, 3) := by decide +kernel
theorem d_R_sense_386 : decode bc_R_sense 386 = .ok (.aload_n 0, 1) := by decide +kernel
theorem d_R_sense_387 : decode bc_R_sense 387 = .ok (.getfield 7, 3) := by decide +kernel
theorem d_R_sense_390 : decode bc_R_sense 390 = .ok (.aload_n 0, 1) := by decide +kernel
theorem d_R_sense_391 : decode bc_R_sense 391 = .ok (.getfield 26, 3) := by decide +kernel
theorem d_R_sense_394 : decode bc_R_sense 394 = .ok (.baload, 1) := by decide +kernel
theorem d_R_sense_395 : decode bc_R_sense 395 = .ok (.ifCond .eq 15, 3) := by decide +kernel
theorem d_R_sense_398 : decode bc_R_sense 398 = .ok (.aload_n 0, 1) := by decide +kernel
theorem d_R_sense_399 : decode bc_R_sense 399 = .ok (.getfield 13, 3) := by decide +kernel
theorem d_R_sense_402 : decode bc_R_sense 402 = .ok (.aload_n 0, 1) := by decide +kernel
theorem d_R_sense_403 : decode bc_R_sense 403 = .ok (.getfield 26, 3) := by decide +kernel
theorem d_R_sense_406 : decode bc_R_sense 406 = .ok (.iaload, 1) := by decide +kernel
theorem d_R_sense_407 : decode bc_R_sense 407 = .ok (.goto 4, 3) := by decide +kernel
theorem d_R_sense_410 : decode bc_R_sense 410 = .ok (.iconst (-1), 1) := by decide +kernel
theorem d_R_sense_411 : decode bc_R_sense 411 = .ok (.invokevirtual 207, 3) := by decide +kernel
theorem d_R_sense_414 : decode bc_R_sense 414 = .ok (.return_, 1) := by decide +kernel
abbrev ap_R_sense (M : XM) (u : (Int64 × Int64 × Int64 × Int32 × Int32 × Int32 × Int64 × Int64 × Int32 × Int32 × Int32 × Int32)) : XM := ((va_up (va_up (va_up (va_up (va_up (va_up (va_up M.1 118 (u.2.2.2.1)) 119 (u.2.2.2.2.1)) 120 (u.2.2.2.2.2.1)) 117 (u.2.2.2.2.2.2.2.2.1)) 114 (u.2.2.2.2.2.2.2.2.2.1)) 115 (u.2.2.2.2.2.2.2.2.2.2.1)) 116 (u.2.2.2.2.2.2.2.2.2.2.2)), (va_up (va_up (va_up (va_up (va_up M.2.1 101 (u.1)) 102 (u.2.1)) 103 (u.2.2.1)) 107 (u.2.2.2.2.2.2.1)) 106 (u.2.2.2.2.2.2.2.1)), M.2.2)
def F_R_sense_k27 (M : XM) (j1 : Int64) (j3 : Int64) (j5 : Int64) (j7 : Int64) (j9 : Int64) (j11 : Int64) (j13 : Int32) (j15 : Int32) (j17 : Int64) (j19 : Int32) (j21 : Int64) (j25 : Int32) (u27 : (Int32 × Int32 × Int32 × Int32)) : (Int64 × Int64 × Int64 × Int32 × Int32 × Int32 × Int64 × Int64 × Int32 × Int32 × Int32 × Int32) := (j7, j9, j11, j13, j15, j19, j21, 0, (u27.1), (u27.2.1), (u27.2.2.1), (u27.2.2.2))
def F_R_sense_k26 (M : XM) (j1 : Int64) (j3 : Int64) (j5 : Int64) (j7 : Int64) (j9 : Int64) (j11 : Int64) (j13 : Int32) (j15 : Int32) (j17 : Int64) (j19 : Int32) (j21 : Int64) (j25 : Int32) : (Int64 × Int64 × Int64 × Int32 × Int32 × Int32 × Int64 × Int64 × Int32 × Int32 × Int32 × Int32) := (F_R_sense_k27 M j1 j3 j5 j7 j9 j11 j13 j15 j17 j19 j21 j25 (F_R_read ((va_up (va_up (va_up (va_up M.1 118 j13) 119 j15) 120 j19) 117 0), (va_up (va_up (va_up (va_up (va_up M.2.1 101 j7) 102 j9) 103 j11) 107 j21) 106 0), M.2.2) j25))
def F_R_sense_j25 (M : XM) (j1 : Int64) (j3 : Int64) (j5 : Int64) (j7 : Int64) (j9 : Int64) (j11 : Int64) (j13 : Int32) (j15 : Int32) (j17 : Int64) (j19 : Int32) (j21 : Int64) : Int32 := (if (M.1 101) < 0 then (-1) else (if ((M.2.2.1 21) ((M.1 101)).toNatClampNeg) = 0 then (-1) else ((M.2.2.1 22) ((M.1 101)).toNatClampNeg)))
def F_R_sense_k30 (M : XM) (j1 : Int64) (j3 : Int64) (j5 : Int64) (j7 : Int64) (j9 : Int64) (j11 : Int64) (j13 : Int32) (j15 : Int32) (j17 : Int64) (j19 : Int32) (j21 : Int64) (j31 : Int32) (u33 : (Int32 × Int32 × Int32 × Int32)) : (Int64 × Int64 × Int64 × Int32 × Int32 × Int32 × Int64 × Int64 × Int32 × Int32 × Int32 × Int32) := (j7, j9, j11, j13, j15, j19, j21, 0, (u33.1), (u33.2.1), (u33.2.2.1), (u33.2.2.2))
def F_R_sense_k29 (M : XM) (j1 : Int64) (j3 : Int64) (j5 : Int64) (j7 : Int64) (j9 : Int64) (j11 : Int64) (j13 : Int32) (j15 : Int32) (j17 : Int64) (j19 : Int32) (j21 : Int64) (j31 : Int32) : (Int64 × Int64 × Int64 × Int32 × Int32 × Int32 × Int64 × Int64 × Int32 × Int32 × Int32 × Int32) := (F_R_sense_k30 M j1 j3 j5 j7 j9 j11 j13 j15 j17 j19 j21 j31 (F_R_read ((va_up (va_up (va_up (va_up M.1 118 j13) 119 j15) 120 j19) 117 0), (va_up (va_up (va_up (va_up (va_up M.2.1 101 j7) 102 j9) 103 j11) 107 j21) 106 0), M.2.2) j31))
def F_R_sense_j28 (M : XM) (j1 : Int64) (j3 : Int64) (j5 : Int64) (j7 : Int64) (j9 : Int64) (j11 : Int64) (j13 : Int32) (j15 : Int32) (j17 : Int64) (j19 : Int32) (j21 : Int64) : Int32 := (if (M.1 101) < 0 then (-1) else (if ((M.2.2.1 21) ((M.1 101)).toNatClampNeg) = 0 then (-1) else ((M.2.2.1 22) ((M.1 101)).toNatClampNeg)))
def F_R_sense_k24 (M : XM) (j1 : Int64) (j3 : Int64) (j5 : Int64) (j7 : Int64) (j9 : Int64) (j11 : Int64) (j13 : Int32) (j15 : Int32) (j17 : Int64) (j19 : Int32) (j21 : Int64) : (Int64 × Int64 × Int64 × Int32 × Int32 × Int32 × Int64 × Int64 × Int32 × Int32 × Int32 × Int32) := (if 0 ≤ (lg_cmp ((M.2.1 106) + j11) 300000) then (if (M.1 110) = 1 then (F_R_sense_k26 M j1 j3 j5 j7 j9 j11 j13 j15 j17 j19 j21 (F_R_sense_j25 M j1 j3 j5 j7 j9 j11 j13 j15 j17 j19 j21)) else (if (M.1 110) = 2 then (F_R_sense_k29 M j1 j3 j5 j7 j9 j11 j13 j15 j17 j19 j21 (F_R_sense_j28 M j1 j3 j5 j7 j9 j11 j13 j15 j17 j19 j21)) else (j7, j9, j11, j13, j15, j19, j21, 0, 0, (M.1 114), (M.1 115), (M.1 116)))) else (j7, j9, j11, j13, j15, j19, j21, ((M.2.1 106) + j11), 0, (M.1 114), (M.1 115), (M.1 116)))
def F_R_sense_k22 (M : XM) (j1 : Int64) (j3 : Int64) (j5 : Int64) (j7 : Int64) (j9 : Int64) (j11 : Int64) (j13 : Int32) (j15 : Int32) (j17 : Int64) (j19 : Int32) (j37 : Int64) : Int64 := j37
def F_R_sense_j21 (M : XM) (j1 : Int64) (j3 : Int64) (j5 : Int64) (j7 : Int64) (j9 : Int64) (j11 : Int64) (j13 : Int32) (j15 : Int32) (j17 : Int64) (j19 : Int32) : Int64 := (if (lg_cmp j11 (M.2.1 107)) ≤ 0 then (M.2.1 107) else j11)
def F_R_sense_j23 (M : XM) (j1 : Int64) (j3 : Int64) (j5 : Int64) (j7 : Int64) (j9 : Int64) (j11 : Int64) (j13 : Int32) (j15 : Int32) (j17 : Int64) (j19 : Int32) : Int64 := (if (M.1 110) = 0 then (M.2.1 107) else (F_R_sense_k22 M j1 j3 j5 j7 j9 j11 j13 j15 j17 j19 (F_R_sense_j21 M j1 j3 j5 j7 j9 j11 j13 j15 j17 j19)))
def F_R_sense_k20 (M : XM) (j1 : Int64) (j3 : Int64) (j5 : Int64) (j7 : Int64) (j9 : Int64) (j11 : Int64) (j13 : Int32) (j15 : Int32) (j17 : Int64) (j19 : Int32) : (Int64 × Int64 × Int64 × Int32 × Int32 × Int32 × Int64 × Int64 × Int32 × Int32 × Int32 × Int32) := (F_R_sense_k24 M j1 j3 j5 j7 j9 j11 j13 j15 j17 j19 (F_R_sense_j23 M j1 j3 j5 j7 j9 j11 j13 j15 j17 j19))
def F_R_sense_j19 (M : XM) (j1 : Int64) (j3 : Int64) (j5 : Int64) (j7 : Int64) (j9 : Int64) (j11 : Int64) (j13 : Int32) (j15 : Int32) (j17 : Int64) : Int32 := (if (lg_cmp j17 (100 + (j11 / 10))) ≤ 0 then 0 else ((M.1 120) + 1))
def F_R_sense_k18 (M : XM) (j1 : Int64) (j3 : Int64) (j5 : Int64) (j7 : Int64) (j9 : Int64) (j11 : Int64) (j13 : Int32) (j15 : Int32) (j17 : Int64) : (Int64 × Int64 × Int64 × Int32 × Int32 × Int32 × Int64 × Int64 × Int32 × Int32 × Int32 × Int32) := (F_R_sense_k20 M j1 j3 j5 j7 j9 j11 j13 j15 j17 (F_R_sense_j19 M j1 j3 j5 j7 j9 j11 j13 j15 j17))
def F_R_sense_j17 (M : XM) (j1 : Int64) (j3 : Int64) (j5 : Int64) (j7 : Int64) (j9 : Int64) (j11 : Int64) (j13 : Int32) (j15 : Int32) : Int64 := (if (lg_cmp j7 j9) ≤ 0 then (j9 - j7) else (j7 - j9))
def F_R_sense_k16 (M : XM) (j1 : Int64) (j3 : Int64) (j5 : Int64) (j7 : Int64) (j9 : Int64) (j11 : Int64) (j13 : Int32) (j15 : Int32) : (Int64 × Int64 × Int64 × Int32 × Int32 × Int32 × Int64 × Int64 × Int32 × Int32 × Int32 × Int32) := (F_R_sense_k18 M j1 j3 j5 j7 j9 j11 j13 j15 (F_R_sense_j17 M j1 j3 j5 j7 j9 j11 j13 j15))
def F_R_sense_j15 (M : XM) (j1 : Int64) (j3 : Int64) (j5 : Int64) (j7 : Int64) (j9 : Int64) (j11 : Int64) (j13 : Int32) : Int32 := (if (lg_cmp ((M.1 123)).toInt64 (200 + (j11 / 20))) ≤ 0 then 0 else ((M.1 119) + 1))
def F_R_sense_k14 (M : XM) (j1 : Int64) (j3 : Int64) (j5 : Int64) (j7 : Int64) (j9 : Int64) (j11 : Int64) (j13 : Int32) : (Int64 × Int64 × Int64 × Int32 × Int32 × Int32 × Int64 × Int64 × Int32 × Int32 × Int32 × Int32) := (F_R_sense_k16 M j1 j3 j5 j7 j9 j11 j13 (F_R_sense_j15 M j1 j3 j5 j7 j9 j11 j13))
def F_R_sense_j13 (M : XM) (j1 : Int64) (j3 : Int64) (j5 : Int64) (j7 : Int64) (j9 : Int64) (j11 : Int64) : Int32 := (if (lg_cmp j11 0) = 0 then ((M.1 118) + 1) else 0)
def F_R_sense_k12 (M : XM) (j1 : Int64) (j3 : Int64) (j5 : Int64) (j7 : Int64) (j9 : Int64) (j11 : Int64) : (Int64 × Int64 × Int64 × Int32 × Int32 × Int32 × Int64 × Int64 × Int32 × Int32 × Int32 × Int32) := (F_R_sense_k14 M j1 j3 j5 j7 j9 j11 (F_R_sense_j13 M j1 j3 j5 j7 j9 j11))
def F_R_sense_j11 (M : XM) (j1 : Int64) (j3 : Int64) (j5 : Int64) (j7 : Int64) (j9 : Int64) : Int64 := (if (lg_cmp j7 j9) ≤ 0 then j9 else j7)
def F_R_sense_k10 (M : XM) (j1 : Int64) (j3 : Int64) (j5 : Int64) (j7 : Int64) (j9 : Int64) : (Int64 × Int64 × Int64 × Int32 × Int32 × Int32 × Int64 × Int64 × Int32 × Int32 × Int32 × Int32) := (F_R_sense_k12 M j1 j3 j5 j7 j9 (F_R_sense_j11 M j1 j3 j5 j7 j9))
def F_R_sense_j9 (M : XM) (j1 : Int64) (j3 : Int64) (j5 : Int64) (j7 : Int64) : Int64 := (if 0 ≤ (lg_cmp (10 * j3) 100000) then 100000 else (10 * j3))
def F_R_sense_k8 (M : XM) (j1 : Int64) (j3 : Int64) (j5 : Int64) (j7 : Int64) : (Int64 × Int64 × Int64 × Int32 × Int32 × Int32 × Int64 × Int64 × Int32 × Int32 × Int32 × Int32) := (F_R_sense_k10 M j1 j3 j5 j7 (F_R_sense_j9 M j1 j3 j5 j7))
def F_R_sense_j7 (M : XM) (j1 : Int64) (j3 : Int64) (j5 : Int64) : Int64 := (if 0 ≤ (lg_cmp j5 100000) then 100000 else j5)
def F_R_sense_k6 (M : XM) (j1 : Int64) (j3 : Int64) (j5 : Int64) : (Int64 × Int64 × Int64 × Int32 × Int32 × Int32 × Int64 × Int64 × Int32 × Int32 × Int32 × Int32) := (F_R_sense_k8 M j1 j3 j5 (F_R_sense_j7 M j1 j3 j5))
def F_R_sense_j5 (M : XM) (j1 : Int64) (j3 : Int64) : Int64 := (if (lg_cmp j1 0) = 0 then 0 else (60000000 / j1))
def F_R_sense_k4 (M : XM) (j1 : Int64) (j3 : Int64) : (Int64 × Int64 × Int64 × Int32 × Int32 × Int32 × Int64 × Int64 × Int32 × Int32 × Int32 × Int32) := (F_R_sense_k6 M j1 j3 (F_R_sense_j5 M j1 j3))
def F_R_sense_j3 (M : XM) (j1 : Int64) : Int64 := (if (M.1 108) < 0 then ((M.2.1 100) / 10000) else ((M.1 108)).toInt64)
def F_R_sense_k2 (M : XM) (j1 : Int64) : (Int64 × Int64 × Int64 × Int32 × Int32 × Int32 × Int64 × Int64 × Int32 × Int32 × Int32 × Int32) := (F_R_sense_k4 M j1 (F_R_sense_j3 M j1))
def F_R_sense_j1 (M : XM) : Int64 := (if (M.1 107) < 0 then (if 0 ≤ (lg_cmp (M.2.1 100) 60000) then (60000000000 / (M.2.1 100)) else 0) else ((M.1 107)).toInt64)
def F_R_sense (M : XM) : (Int64 × Int64 × Int64 × Int32 × Int32 × Int32 × Int64 × Int64 × Int32 × Int32 × Int32 × Int32) := (F_R_sense_k2 M (F_R_sense_j1 M))
set_option maxHeartbeats 4000000 in
set_option maxRecDepth 100000 in
theorem c_R_sense (l : Launch) (dC : Nat → ClassId) (dI : Nat → Nat → Nat) (Z : Nat → ClassId) (A : Nat → Nat) (sz : Nat) (M : XM) (hin : (M.1 101) < 4) : Met l y_R_sense (.code y_R_sense bc_R_sense 7 none :: xw) ({ frames := 1, cells := 0, slots := 0, locals := 23 }) (va_Pc [.ref (A 20)] (xB (dC, dI) xcl (xty Z) sz [(A 20, xc20 Z A M), (A 21, xc21 Z A M), (A 22, xc22 Z A M)])) (va_Qv (fun u : (Int64 × Int64 × Int64 × Int32 × Int32 × Int32 × Int64 × Int64 × Int32 × Int32 × Int32 × Int32) => u = F_R_sense M) (fun u => xE (dC, dI) xcl (xty Z) (va_A [(A 20, xc20 Z A M), (A 21, xc21 Z A M), (A 22, xc22 Z A M)] sz) [(A 20, xc20 Z A (ap_R_sense M u)), (A 21, xc21 Z A (ap_R_sense M u)), (A 22, xc22 Z A (ap_R_sense M u))]) (va_A [(A 20, xc20 Z A M), (A 21, xc21 Z A M), (A 22, xc22 Z A M)] sz)) 0 0 (va_A [(A 20, xc20 Z A M), (A 21, xc21 Z A M), (A 22, xc22 Z A M)] sz) := by
  refine Met.ofW (cc := bc_R_sense) (maxL := 7) (ret := none) (by decide) rfl ?_
  intro p e s m args below meth c s₁ B hml hv
  obtain ⟨rfl, hsz, hP, hK, hD0, hq⟩ := hv
  have hx := B.exec
  have hb := B.bytes
  have hr := B.returns
  have hts := atoms_spec (ws := (.code y_R_sense bc_R_sense 7 none :: xw)) B.pre
  have htt : ∀ w ∈ xw, w.before _ s = true := fun w h => hts w (List.mem_cons_of_mem _ h)
  have hown : s.vm.findClass "CentrifugeUnitModel" = some m.cls := findClass_of_methodNamed B.named
  have hlocks := B.notSynchronized
  subst hsz
  have hD := hD0.self (sz := s.heap.size)
  generalize hAe : va_A [(A 20, xc20 Z A M), (A 21, xc21 Z A M), (A 22, xc22 Z A M)] s.heap.size = AA at hD ⊢
  have hA : ∀ q : Nat, s.heap.size ≤ q → AA q := fun q h => by rw [← hAe]; exact Or.inr h
  have hS : va_S AA s.heap s.heap [] := va_S.rf
  have hP : va_P (dC, dI) xcl [(A 20, .inr (10, [.int (M.1 100), .ref (A 21), .ref (A 22), .ref (A 23), .ref (A 24), .ref (A 25), .int (M.1 101), .ref (A 26), .ref (A 27), .ref (A 28), .int (M.1 102), .long (M.2.1 100), .int (M.1 103), .int (M.1 104), .int (M.1 105), .int (M.1 106), .int (M.1 107), .int (M.1 108), .long (M.2.1 101), .long (M.2.1 102), .long (M.2.1 103), .int (M.1 109), .int (M.1 110), .int (M.1 111), .int (M.1 112), .int (M.1 113), .long (M.2.1 104), .long (M.2.1 105), .long (M.2.1 106), .int (M.1 114), .int (M.1 115), .int (M.1 116), .int (M.1 117), .int (M.1 118), .int (M.1 119), .int (M.1 120), .int (M.1 121), .int (M.1 122), .int (M.1 123), .int (M.1 124), .long (M.2.1 107), .int (M.1 125), .ref (A 29), .ref (A 30), .ref (A 31)])), (A 21, .inl (Z 2, 4, .inl (M.2.2.1 21))), (A 22, .inl (Z 0, 4, .inl (M.2.2.1 22)))] s.heap := hP
  have hD : va_D AA [(A 20, .inr (10, [.int (M.1 100), .ref (A 21), .ref (A 22), .ref (A 23), .ref (A 24), .ref (A 25), .int (M.1 101), .ref (A 26), .ref (A 27), .ref (A 28), .int (M.1 102), .long (M.2.1 100), .int (M.1 103), .int (M.1 104), .int (M.1 105), .int (M.1 106), .int (M.1 107), .int (M.1 108), .long (M.2.1 101), .long (M.2.1 102), .long (M.2.1 103), .int (M.1 109), .int (M.1 110), .int (M.1 111), .int (M.1 112), .int (M.1 113), .long (M.2.1 104), .long (M.2.1 105), .long (M.2.1 106), .int (M.1 114), .int (M.1 115), .int (M.1 116), .int (M.1 117), .int (M.1 118), .int (M.1 119), .int (M.1 120), .int (M.1 121), .int (M.1 122), .int (M.1 123), .int (M.1 124), .long (M.2.1 107), .int (M.1 125), .ref (A 29), .ref (A 30), .ref (A 31)])), (A 21, .inl (Z 2, 4, .inl (M.2.2.1 21))), (A 22, .inl (Z 0, 4, .inl (M.2.2.1 22)))] := hD
  have hl := lv_entry ([.ref (A 20)]) (n := 7) (Nat.le_of_ble_eq_true rfl)
  rw [lg_entry_eq]
  generalize (lg_sl ([.ref (A 20)]) ++ List.replicate (7 - (lg_sl ([.ref (A 20)])).length) Slot.unset).toArray = ls at hl ⊢
  have hl : lv_has ls 7 [(0, .ref (A 20))] := hl
  refine lv_aload_n hx hb d_R_sense_0 rfl (lv_at hl 0 rfl) ?_
  refine va_get (D := (dC, dI)) (ci := 10) (v := .int (M.1 107)) (C := "CentrifugeUnitModel") (T := xF10) (N := 45) hx hb htt xin10 hown hK hP 0 rfl rfl 16 (by decide) (htt _ tw_795) (fun _ h9 => h9) rfl d_R_sense_1 ?_
  refine xj_p 7 38 (fun q9 : Int64 => [(0, .ref (A 20))]) (fun q9 : Int64 => [.long q9]) (fun q9 : Int64 => q9 = F_R_sense_j1 M) (fun hJ2 => ?_) (fun ls j1 hl hj1 => ?_)
  · refine lv_if_lt (tgt := 15) hx hb d_R_sense_4 rfl (fun h49 => ?_) (fun h49 => ?_)
    · refine lv_aload_n hx hb d_R_sense_15 rfl (lv_at hl 0 rfl) ?_
      refine va_get (D := (dC, dI)) (ci := 10) (v := .long (M.2.1 100)) (C := "CentrifugeUnitModel") (T := xF10) (N := 45) hx hb htt xin10 hown hK hP 0 rfl rfl 11 (by decide) (htt _ tw_790) (fun _ h9 => h9) rfl d_R_sense_16 ?_
      refine lv_ldc2 (v := 60000) hx hb hown (htt _ tw_1011) d_R_sense_19 ?_
      refine W.lcmp hx hb d_R_sense_22 ?_
      refine lv_if_ge (tgt := 30) hx hb d_R_sense_23 rfl (fun h50 => ?_) (fun h50 => ?_)
      · refine lv_ldc2 (v := 60000000000) hx hb hown (htt _ tw_1012) d_R_sense_30 ?_
        refine lv_aload_n hx hb d_R_sense_33 rfl (lv_at hl 0 rfl) ?_
        refine va_get (D := (dC, dI)) (ci := 10) (v := .long (M.2.1 100)) (C := "CentrifugeUnitModel") (T := xF10) (N := 45) hx hb htt xin10 hown hK hP 0 rfl rfl 11 (by decide) (htt _ tw_790) (fun _ h9 => h9) rfl d_R_sense_34 ?_
        refine lv_ldiv hx hb d_R_sense_37 (xsp h50) ?_
        exact hJ2 _ (60000000000 / (M.2.1 100)) (lv_sub hl [0] rfl) (by rw [F_R_sense_j1, if_pos h49, if_pos h50])
      · refine lv_lconst (v := 0) hx hb d_R_sense_26 (by decide) ?_
        refine lv_goto (tgt := 38) hx hb d_R_sense_27 rfl ?_
        exact hJ2 _ 0 (lv_sub hl [0] rfl) (by rw [F_R_sense_j1, if_pos h49, if_neg h50])
    · refine lv_aload_n hx hb d_R_sense_7 rfl (lv_at hl 0 rfl) ?_
      refine va_get (D := (dC, dI)) (ci := 10) (v := .int (M.1 107)) (C := "CentrifugeUnitModel") (T := xF10) (N := 45) hx hb htt xin10 hown hK hP 0 rfl rfl 16 (by decide) (htt _ tw_795) (fun _ h9 => h9) rfl d_R_sense_8 ?_
      refine lv_i2l (v := ((M.1 107)).toInt64) hx hb d_R_sense_11 rfl ?_
      refine lv_goto (tgt := 38) hx hb d_R_sense_12 rfl ?_
      exact hJ2 _ ((M.1 107)).toInt64 (lv_sub hl [0] rfl) (by rw [F_R_sense_j1, if_neg h49])
  · refine lv_lstore_n (lv' := [(1, .long j1), (0, .ref (A 20))]) hx hb d_R_sense_38 rfl hl (by decide) rfl (fun ls hl => ?_)
    refine lv_aload_n hx hb d_R_sense_39 rfl (lv_at hl 1 rfl) ?_
    refine va_get (D := (dC, dI)) (ci := 10) (v := .int (M.1 108)) (C := "CentrifugeUnitModel") (T := xF10) (N := 45) hx hb htt xin10 hown hK hP 0 rfl rfl 17 (by decide) (htt _ tw_796) (fun _ h9 => h9) rfl d_R_sense_40 ?_
    refine xj_p 7 62 (fun q9 : Int64 => [(1, .long j1), (0, .ref (A 20))]) (fun q9 : Int64 => [.long q9]) (fun q9 : Int64 => q9 = F_R_sense_j3 M j1) (fun hJ4 => ?_) (fun ls j3 hl hj3 => ?_)
    · refine lv_if_lt (tgt := 54) hx hb d_R_sense_43 rfl (fun h48 => ?_) (fun h48 => ?_)
      · refine lv_aload_n hx hb d_R_sense_54 rfl (lv_at hl 1 rfl) ?_
        refine va_get (D := (dC, dI)) (ci := 10) (v := .long (M.2.1 100)) (C := "CentrifugeUnitModel") (T := xF10) (N := 45) hx hb htt xin10 hown hK hP 0 rfl rfl 11 (by decide) (htt _ tw_790) (fun _ h9 => h9) rfl d_R_sense_55 ?_
        refine lv_ldc2 (v := 10000) hx hb hown (htt _ tw_989) d_R_sense_58 ?_
        refine lv_ldiv hx hb d_R_sense_61 (by decide) ?_
        exact hJ4 _ ((M.2.1 100) / 10000) (lv_sub hl [0, 1] rfl) (by rw [F_R_sense_j3, if_pos h48])
      · refine lv_aload_n hx hb d_R_sense_46 rfl (lv_at hl 1 rfl) ?_
        refine va_get (D := (dC, dI)) (ci := 10) (v := .int (M.1 108)) (C := "CentrifugeUnitModel") (T := xF10) (N := 45) hx hb htt xin10 hown hK hP 0 rfl rfl 17 (by decide) (htt _ tw_796) (fun _ h9 => h9) rfl d_R_sense_47 ?_
        refine lv_i2l (v := ((M.1 108)).toInt64) hx hb d_R_sense_50 rfl ?_
        refine lv_goto (tgt := 62) hx hb d_R_sense_51 rfl ?_
        exact hJ4 _ ((M.1 108)).toInt64 (lv_sub hl [0, 1] rfl) (by rw [F_R_sense_j3, if_neg h48])
    · refine lv_lstore_n (lv' := [(3, .long j3), (1, .long j1), (0, .ref (A 20))]) hx hb d_R_sense_62 rfl hl (by decide) rfl (fun ls hl => ?_)
      refine lv_aload_n hx hb d_R_sense_63 rfl (lv_at hl 2 rfl) ?_
      refine lv_lload_n hx hb d_R_sense_64 rfl (lv_at hl 1 rfl) ?_
      refine lv_lconst (v := 0) hx hb d_R_sense_65 (by decide) ?_
      refine W.lcmp hx hb d_R_sense_66 ?_
      refine xj_p 7 79 (fun q9 : Int64 => [(3, .long j3), (1, .long j1), (0, .ref (A 20))]) (fun q9 : Int64 => [.long q9, .ref (A 20)]) (fun q9 : Int64 => q9 = F_R_sense_j5 M j1 j3) (fun hJ6 => ?_) (fun ls j5 hl hj5 => ?_)
      · refine lv_if_ne (tgt := 74) hx hb d_R_sense_67 rfl (fun h47 => ?_) (fun h47 => ?_)
        · refine lv_ldc2 (v := 60000000) hx hb hown (htt _ tw_1013) d_R_sense_74 ?_
          refine lv_lload_n hx hb d_R_sense_77 rfl (lv_at hl 1 rfl) ?_
          refine lv_ldiv hx hb d_R_sense_78 (xgtl h47) ?_
          exact hJ6 _ (60000000 / j1) (lv_sub hl [0, 1, 2] rfl) (by rw [F_R_sense_j5, if_neg h47])
        · refine lv_lconst (v := 0) hx hb d_R_sense_70 (by decide) ?_
          refine lv_goto (tgt := 79) hx hb d_R_sense_71 rfl ?_
          exact hJ6 _ 0 (lv_sub hl [0, 1, 2] rfl) (by rw [F_R_sense_j5, if_pos h47])
      · refine va_put (D := (dC, dI)) (ci := 10) (v := .long j5) (ty := .long) (C := "CentrifugeUnitModel") (T := xF10) (N := 45) hx hb htt xin10 xT10 xTo10 xNm10 hown hK hP hD hS 0 rfl rfl 18 (by decide) (htt _ tw_797) (fun _ h9 => h9) rfl (by decide +kernel) rfl rfl (Nat.le_of_ble_eq_true rfl) d_R_sense_79 (fun H locs hP hD hS => ?_)
        have hP : va_P (dC, dI) xcl [(A 20, .inr (10, [.int (M.1 100), .ref (A 21), .ref (A 22), .ref (A 23), .ref (A 24), .ref (A 25), .int (M.1 101), .ref (A 26), .ref (A 27), .ref (A 28), .int (M.1 102), .long (M.2.1 100), .int (M.1 103), .int (M.1 104), .int (M.1 105), .int (M.1 106), .int (M.1 107), .int (M.1 108), .long j5, .long (M.2.1 102), .long (M.2.1 103), .int (M.1 109), .int (M.1 110), .int (M.1 111), .int (M.1 112), .int (M.1 113), .long (M.2.1 104), .long (M.2.1 105), .long (M.2.1 106), .int (M.1 114), .int (M.1 115), .int (M.1 116), .int (M.1 117), .int (M.1 118), .int (M.1 119), .int (M.1 120), .int (M.1 121), .int (M.1 122), .int (M.1 123), .int (M.1 124), .long (M.2.1 107), .int (M.1 125), .ref (A 29), .ref (A 30), .ref (A 31)])), (A 21, .inl (Z 2, 4, .inl (M.2.2.1 21))), (A 22, .inl (Z 0, 4, .inl (M.2.2.1 22)))] H := hP
        have hD : va_D AA [(A 20, .inr (10, [.int (M.1 100), .ref (A 21), .ref (A 22), .ref (A 23), .ref (A 24), .ref (A 25), .int (M.1 101), .ref (A 26), .ref (A 27), .ref (A 28), .int (M.1 102), .long (M.2.1 100), .int (M.1 103), .int (M.1 104), .int (M.1 105), .int (M.1 106), .int (M.1 107), .int (M.1 108), .long j5, .long (M.2.1 102), .long (M.2.1 103), .int (M.1 109), .int (M.1 110), .int (M.1 111), .int (M.1 112), .int (M.1 113), .long (M.2.1 104), .long (M.2.1 105), .long (M.2.1 106), .int (M.1 114), .int (M.1 115), .int (M.1 116), .int (M.1 117), .int (M.1 118), .int (M.1 119), .int (M.1 120), .int (M.1 121), .int (M.1 122), .int (M.1 123), .int (M.1 124), .long (M.2.1 107), .int (M.1 125), .ref (A 29), .ref (A 30), .ref (A 31)])), (A 21, .inl (Z 2, 4, .inl (M.2.2.1 21))), (A 22, .inl (Z 0, 4, .inl (M.2.2.1 22)))] := hD
        refine lv_aload_n hx hb d_R_sense_82 rfl (lv_at hl 2 rfl) ?_
        refine lv_ldc2 (v := 10) hx hb hown (htt _ tw_929) d_R_sense_83 ?_
        refine lv_lload_n hx hb d_R_sense_86 rfl (lv_at hl 0 rfl) ?_
        refine lv_lmul hx hb d_R_sense_87 ?_
        refine va_put (D := (dC, dI)) (ci := 10) (v := .long (10 * j3)) (ty := .long) (C := "CentrifugeUnitModel") (T := xF10) (N := 45) hx hb htt xin10 xT10 xTo10 xNm10 hown hK hP hD hS 0 rfl rfl 19 (by decide) (htt _ tw_798) (fun _ h9 => h9) rfl (by decide +kernel) rfl rfl (Nat.le_of_ble_eq_true rfl) d_R_sense_88 (fun H locs hP hD hS => ?_)
        have hP : va_P (dC, dI) xcl [(A 20, .inr (10, [.int (M.1 100), .ref (A 21), .ref (A 22), .ref (A 23), .ref (A 24), .ref (A 25), .int (M.1 101), .ref (A 26), .ref (A 27), .ref (A 28), .int (M.1 102), .long (M.2.1 100), .int (M.1 103), .int (M.1 104), .int (M.1 105), .int (M.1 106), .int (M.1 107), .int (M.1 108), .long j5, .long (10 * j3), .long (M.2.1 103), .int (M.1 109), .int (M.1 110), .int (M.1 111), .int (M.1 112), .int (M.1 113), .long (M.2.1 104), .long (M.2.1 105), .long (M.2.1 106), .int (M.1 114), .int (M.1 115), .int (M.1 116), .int (M.1 117), .int (M.1 118), .int (M.1 119), .int (M.1 120), .int (M.1 121), .int (M.1 122), .int (M.1 123), .int (M.1 124), .long (M.2.1 107), .int (M.1 125), .ref (A 29), .ref (A 30), .ref (A 31)])), (A 21, .inl (Z 2, 4, .inl (M.2.2.1 21))), (A 22, .inl (Z 0, 4, .inl (M.2.2.1 22)))] H := hP
        have hD : va_D AA [(A 20, .inr (10, [.int (M.1 100), .ref (A 21), .ref (A 22), .ref (A 23), .ref (A 24), .ref (A 25), .int (M.1 101), .ref (A 26), .ref (A 27), .ref (A 28), .int (M.1 102), .long (M.2.1 100), .int (M.1 103), .int (M.1 104), .int (M.1 105), .int (M.1 106), .int (M.1 107), .int (M.1 108), .long j5, .long (10 * j3), .long (M.2.1 103), .int (M.1 109), .int (M.1 110), .int (M.1 111), .int (M.1 112), .int (M.1 113), .long (M.2.1 104), .long (M.2.1 105), .long (M.2.1 106), .int (M.1 114), .int (M.1 115), .int (M.1 116), .int (M.1 117), .int (M.1 118), .int (M.1 119), .int (M.1 120), .int (M.1 121), .int (M.1 122), .int (M.1 123), .int (M.1 124), .long (M.2.1 107), .int (M.1 125), .ref (A 29), .ref (A 30), .ref (A 31)])), (A 21, .inl (Z 2, 4, .inl (M.2.2.1 21))), (A 22, .inl (Z 0, 4, .inl (M.2.2.1 22)))] := hD
        refine lv_aload_n hx hb d_R_sense_91 rfl (lv_at hl 2 rfl) ?_
        refine lv_aload_n hx hb d_R_sense_92 rfl (lv_at hl 2 rfl) ?_
        refine va_get (D := (dC, dI)) (ci := 10) (v := .long j5) (C := "CentrifugeUnitModel") (T := xF10) (N := 45) hx hb htt xin10 hown hK hP 0 rfl rfl 18 (by decide) (htt _ tw_797) (fun _ h9 => h9) rfl d_R_sense_93 ?_
        refine lv_ldc2 (v := 100000) hx hb hown (htt _ tw_951) d_R_sense_96 ?_
        refine W.lcmp hx hb d_R_sense_99 ?_
        refine xj_p 7 113 (fun q9 : Int64 => [(3, .long j3), (1, .long j1), (0, .ref (A 20))]) (fun q9 : Int64 => [.long q9, .ref (A 20)]) (fun q9 : Int64 => q9 = F_R_sense_j7 M j1 j3 j5) (fun hJ8 => ?_) (fun ls j7 hl hj7 => ?_)
        · refine lv_if_ge (tgt := 110) hx hb d_R_sense_100 rfl (fun h46 => ?_) (fun h46 => ?_)
          · refine lv_ldc2 (v := 100000) hx hb hown (htt _ tw_951) d_R_sense_110 ?_
            exact hJ8 _ 100000 (lv_sub hl [0, 1, 2] rfl) (by rw [F_R_sense_j7, if_pos h46])
          · refine lv_aload_n hx hb d_R_sense_103 rfl (lv_at hl 2 rfl) ?_
            refine va_get (D := (dC, dI)) (ci := 10) (v := .long j5) (C := "CentrifugeUnitModel") (T := xF10) (N := 45) hx hb htt xin10 hown hK hP 0 rfl rfl 18 (by decide) (htt _ tw_797) (fun _ h9 => h9) rfl d_R_sense_104 ?_
            refine lv_goto (tgt := 113) hx hb d_R_sense_107 rfl ?_
            exact hJ8 _ j5 (lv_sub hl [0, 1, 2] rfl) (by rw [F_R_sense_j7, if_neg h46])
        · refine va_put (D := (dC, dI)) (ci := 10) (v := .long j7) (ty := .long) (C := "CentrifugeUnitModel") (T := xF10) (N := 45) hx hb htt xin10 xT10 xTo10 xNm10 hown hK hP hD hS 0 rfl rfl 18 (by decide) (htt _ tw_797) (fun _ h9 => h9) rfl (by decide +kernel) rfl rfl (Nat.le_of_ble_eq_true rfl) d_R_sense_113 (fun H locs hP hD hS => ?_)
          have hP : va_P (dC, dI) xcl [(A 20, .inr (10, [.int (M.1 100), .ref (A 21), .ref (A 22), .ref (A 23), .ref (A 24), .ref (A 25), .int (M.1 101), .ref (A 26), .ref (A 27), .ref (A 28), .int (M.1 102), .long (M.2.1 100), .int (M.1 103), .int (M.1 104), .int (M.1 105), .int (M.1 106), .int (M.1 107), .int (M.1 108), .long j7, .long (10 * j3), .long (M.2.1 103), .int (M.1 109), .int (M.1 110), .int (M.1 111), .int (M.1 112), .int (M.1 113), .long (M.2.1 104), .long (M.2.1 105), .long (M.2.1 106), .int (M.1 114), .int (M.1 115), .int (M.1 116), .int (M.1 117), .int (M.1 118), .int (M.1 119), .int (M.1 120), .int (M.1 121), .int (M.1 122), .int (M.1 123), .int (M.1 124), .long (M.2.1 107), .int (M.1 125), .ref (A 29), .ref (A 30), .ref (A 31)])), (A 21, .inl (Z 2, 4, .inl (M.2.2.1 21))), (A 22, .inl (Z 0, 4, .inl (M.2.2.1 22)))] H := hP
          have hD : va_D AA [(A 20, .inr (10, [.int (M.1 100), .ref (A 21), .ref (A 22), .ref (A 23), .ref (A 24), .ref (A 25), .int (M.1 101), .ref (A 26), .ref (A 27), .ref (A 28), .int (M.1 102), .long (M.2.1 100), .int (M.1 103), .int (M.1 104), .int (M.1 105), .int (M.1 106), .int (M.1 107), .int (M.1 108), .long j7, .long (10 * j3), .long (M.2.1 103), .int (M.1 109), .int (M.1 110), .int (M.1 111), .int (M.1 112), .int (M.1 113), .long (M.2.1 104), .long (M.2.1 105), .long (M.2.1 106), .int (M.1 114), .int (M.1 115), .int (M.1 116), .int (M.1 117), .int (M.1 118), .int (M.1 119), .int (M.1 120), .int (M.1 121), .int (M.1 122), .int (M.1 123), .int (M.1 124), .long (M.2.1 107), .int (M.1 125), .ref (A 29), .ref (A 30), .ref (A 31)])), (A 21, .inl (Z 2, 4, .inl (M.2.2.1 21))), (A 22, .inl (Z 0, 4, .inl (M.2.2.1 22)))] := hD
          refine lv_aload_n hx hb d_R_sense_116 rfl (lv_at hl 2 rfl) ?_
          refine lv_aload_n hx hb d_R_sense_117 rfl (lv_at hl 2 rfl) ?_
          refine va_get (D := (dC, dI)) (ci := 10) (v := .long (10 * j3)) (C := "CentrifugeUnitModel") (T := xF10) (N := 45) hx hb htt xin10 hown hK hP 0 rfl rfl 19 (by decide) (htt _ tw_798) (fun _ h9 => h9) rfl d_R_sense_118 ?_
          refine lv_ldc2 (v := 100000) hx hb hown (htt _ tw_951) d_R_sense_121 ?_
          refine W.lcmp hx hb d_R_sense_124 ?_
          refine xj_p 7 138 (fun q9 : Int64 => [(3, .long j3), (1, .long j1), (0, .ref (A 20))]) (fun q9 : Int64 => [.long q9, .ref (A 20)]) (fun q9 : Int64 => q9 = F_R_sense_j9 M j1 j3 j5 j7) (fun hJ10 => ?_) (fun ls j9 hl hj9 => ?_)
          · refine lv_if_ge (tgt := 135) hx hb d_R_sense_125 rfl (fun h45 => ?_) (fun h45 => ?_)
            · refine lv_ldc2 (v := 100000) hx hb hown (htt _ tw_951) d_R_sense_135 ?_
              exact hJ10 _ 100000 (lv_sub hl [0, 1, 2] rfl) (by rw [F_R_sense_j9, if_pos h45])
            · refine lv_aload_n hx hb d_R_sense_128 rfl (lv_at hl 2 rfl) ?_
              refine va_get (D := (dC, dI)) (ci := 10) (v := .long (10 * j3)) (C := "CentrifugeUnitModel") (T := xF10) (N := 45) hx hb htt xin10 hown hK hP 0 rfl rfl 19 (by decide) (htt _ tw_798) (fun _ h9 => h9) rfl d_R_sense_129 ?_
              refine lv_goto (tgt := 138) hx hb d_R_sense_132 rfl ?_
              exact hJ10 _ (10 * j3) (lv_sub hl [0, 1, 2] rfl) (by rw [F_R_sense_j9, if_neg h45])
          · refine va_put (D := (dC, dI)) (ci := 10) (v := .long j9) (ty := .long) (C := "CentrifugeUnitModel") (T := xF10) (N := 45) hx hb htt xin10 xT10 xTo10 xNm10 hown hK hP hD hS 0 rfl rfl 19 (by decide) (htt _ tw_798) (fun _ h9 => h9) rfl (by decide +kernel) rfl rfl (Nat.le_of_ble_eq_true rfl) d_R_sense_138 (fun H locs hP hD hS => ?_)
            have hP : va_P (dC, dI) xcl [(A 20, .inr (10, [.int (M.1 100), .ref (A 21), .ref (A 22), .ref (A 23), .ref (A 24), .ref (A 25), .int (M.1 101), .ref (A 26), .ref (A 27), .ref (A 28), .int (M.1 102), .long (M.2.1 100), .int (M.1 103), .int (M.1 104), .int (M.1 105), .int (M.1 106), .int (M.1 107), .int (M.1 108), .long j7, .long j9, .long (M.2.1 103), .int (M.1 109), .int (M.1 110), .int (M.1 111), .int (M.1 112), .int (M.1 113), .long (M.2.1 104), .long (M.2.1 105), .long (M.2.1 106), .int (M.1 114), .int (M.1 115), .int (M.1 116), .int (M.1 117), .int (M.1 118), .int (M.1 119), .int (M.1 120), .int (M.1 121), .int (M.1 122), .int (M.1 123), .int (M.1 124), .long (M.2.1 107), .int (M.1 125), .ref (A 29), .ref (A 30), .ref (A 31)])), (A 21, .inl (Z 2, 4, .inl (M.2.2.1 21))), (A 22, .inl (Z 0, 4, .inl (M.2.2.1 22)))] H := hP
            have hD : va_D AA [(A 20, .inr (10, [.int (M.1 100), .ref (A 21), .ref (A 22), .ref (A 23), .ref (A 24), .ref (A 25), .int (M.1 101), .ref (A 26), .ref (A 27), .ref (A 28), .int (M.1 102), .long (M.2.1 100), .int (M.1 103), .int (M.1 104), .int (M.1 105), .int (M.1 106), .int (M.1 107), .int (M.1 108), .long j7, .long j9, .long (M.2.1 103), .int (M.1 109), .int (M.1 110), .int (M.1 111), .int (M.1 112), .int (M.1 113), .long (M.2.1 104), .long (M.2.1 105), .long (M.2.1 106), .int (M.1 114), .int (M.1 115), .int (M.1 116), .int (M.1 117), .int (M.1 118), .int (M.1 119), .int (M.1 120), .int (M.1 121), .int (M.1 122), .int (M.1 123), .int (M.1 124), .long (M.2.1 107), .int (M.1 125), .ref (A 29), .ref (A 30), .ref (A 31)])), (A 21, .inl (Z 2, 4, .inl (M.2.2.1 21))), (A 22, .inl (Z 0, 4, .inl (M.2.2.1 22)))] := hD
            refine lv_aload_n hx hb d_R_sense_141 rfl (lv_at hl 2 rfl) ?_
            refine lv_aload_n hx hb d_R_sense_142 rfl (lv_at hl 2 rfl) ?_
            refine va_get (D := (dC, dI)) (ci := 10) (v := .long j7) (C := "CentrifugeUnitModel") (T := xF10) (N := 45) hx hb htt xin10 hown hK hP 0 rfl rfl 18 (by decide) (htt _ tw_797) (fun _ h9 => h9) rfl d_R_sense_143 ?_
            refine lv_aload_n hx hb d_R_sense_146 rfl (lv_at hl 2 rfl) ?_
            refine va_get (D := (dC, dI)) (ci := 10) (v := .long j9) (C := "CentrifugeUnitModel") (T := xF10) (N := 45) hx hb htt xin10 hown hK hP 0 rfl rfl 19 (by decide) (htt _ tw_798) (fun _ h9 => h9) rfl d_R_sense_147 ?_
            refine W.lcmp hx hb d_R_sense_150 ?_
            refine xj_p 7 165 (fun q9 : Int64 => [(3, .long j3), (1, .long j1), (0, .ref (A 20))]) (fun q9 : Int64 => [.long q9, .ref (A 20)]) (fun q9 : Int64 => q9 = F_R_sense_j11 M j1 j3 j5 j7 j9) (fun hJ12 => ?_) (fun ls j11 hl hj11 => ?_)
            · refine lv_if_le (tgt := 161) hx hb d_R_sense_151 rfl (fun h44 => ?_) (fun h44 => ?_)
              · refine lv_aload_n hx hb d_R_sense_161 rfl (lv_at hl 2 rfl) ?_
                refine va_get (D := (dC, dI)) (ci := 10) (v := .long j9) (C := "CentrifugeUnitModel") (T := xF10) (N := 45) hx hb htt xin10 hown hK hP 0 rfl rfl 19 (by decide) (htt _ tw_798) (fun _ h9 => h9) rfl d_R_sense_162 ?_
                exact hJ12 _ j9 (lv_sub hl [0, 1, 2] rfl) (by rw [F_R_sense_j11, if_pos h44])
              · refine lv_aload_n hx hb d_R_sense_154 rfl (lv_at hl 2 rfl) ?_
                refine va_get (D := (dC, dI)) (ci := 10) (v := .long j7) (C := "CentrifugeUnitModel") (T := xF10) (N := 45) hx hb htt xin10 hown hK hP 0 rfl rfl 18 (by decide) (htt _ tw_797) (fun _ h9 => h9) rfl d_R_sense_155 ?_
                refine lv_goto (tgt := 165) hx hb d_R_sense_158 rfl ?_
                exact hJ12 _ j7 (lv_sub hl [0, 1, 2] rfl) (by rw [F_R_sense_j11, if_neg h44])
            · refine va_put (D := (dC, dI)) (ci := 10) (v := .long j11) (ty := .long) (C := "CentrifugeUnitModel") (T := xF10) (N := 45) hx hb htt xin10 xT10 xTo10 xNm10 hown hK hP hD hS 0 rfl rfl 20 (by decide) (htt _ tw_799) (fun _ h9 => h9) rfl (by decide +kernel) rfl rfl (Nat.le_of_ble_eq_true rfl) d_R_sense_165 (fun H locs hP hD hS => ?_)
              have hP : va_P (dC, dI) xcl [(A 20, .inr (10, [.int (M.1 100), .ref (A 21), .ref (A 22), .ref (A 23), .ref (A 24), .ref (A 25), .int (M.1 101), .ref (A 26), .ref (A 27), .ref (A 28), .int (M.1 102), .long (M.2.1 100), .int (M.1 103), .int (M.1 104), .int (M.1 105), .int (M.1 106), .int (M.1 107), .int (M.1 108), .long j7, .long j9, .long j11, .int (M.1 109), .int (M.1 110), .int (M.1 111), .int (M.1 112), .int (M.1 113), .long (M.2.1 104), .long (M.2.1 105), .long (M.2.1 106), .int (M.1 114), .int (M.1 115), .int (M.1 116), .int (M.1 117), .int (M.1 118), .int (M.1 119), .int (M.1 120), .int (M.1 121), .int (M.1 122), .int (M.1 123), .int (M.1 124), .long (M.2.1 107), .int (M.1 125), .ref (A 29), .ref (A 30), .ref (A 31)])), (A 21, .inl (Z 2, 4, .inl (M.2.2.1 21))), (A 22, .inl (Z 0, 4, .inl (M.2.2.1 22)))] H := hP
              have hD : va_D AA [(A 20, .inr (10, [.int (M.1 100), .ref (A 21), .ref (A 22), .ref (A 23), .ref (A 24), .ref (A 25), .int (M.1 101), .ref (A 26), .ref (A 27), .ref (A 28), .int (M.1 102), .long (M.2.1 100), .int (M.1 103), .int (M.1 104), .int (M.1 105), .int (M.1 106), .int (M.1 107), .int (M.1 108), .long j7, .long j9, .long j11, .int (M.1 109), .int (M.1 110), .int (M.1 111), .int (M.1 112), .int (M.1 113), .long (M.2.1 104), .long (M.2.1 105), .long (M.2.1 106), .int (M.1 114), .int (M.1 115), .int (M.1 116), .int (M.1 117), .int (M.1 118), .int (M.1 119), .int (M.1 120), .int (M.1 121), .int (M.1 122), .int (M.1 123), .int (M.1 124), .long (M.2.1 107), .int (M.1 125), .ref (A 29), .ref (A 30), .ref (A 31)])), (A 21, .inl (Z 2, 4, .inl (M.2.2.1 21))), (A 22, .inl (Z 0, 4, .inl (M.2.2.1 22)))] := hD
              refine lv_aload_n hx hb d_R_sense_168 rfl (lv_at hl 2 rfl) ?_
              refine lv_aload_n hx hb d_R_sense_169 rfl (lv_at hl 2 rfl) ?_
              refine va_get (D := (dC, dI)) (ci := 10) (v := .long j11) (C := "CentrifugeUnitModel") (T := xF10) (N := 45) hx hb htt xin10 hown hK hP 0 rfl rfl 20 (by decide) (htt _ tw_799) (fun _ h9 => h9) rfl d_R_sense_170 ?_
              refine lv_lconst (v := 0) hx hb d_R_sense_173 (by decide) ?_
              refine W.lcmp hx hb d_R_sense_174 ?_
              refine xj_p 7 188 (fun q9 : Int32 => [(3, .long j3), (1, .long j1), (0, .ref (A 20))]) (fun q9 : Int32 => [.int q9, .ref (A 20)]) (fun q9 : Int32 => q9 = F_R_sense_j13 M j1 j3 j5 j7 j9 j11) (fun hJ14 => ?_) (fun ls j13 hl hj13 => ?_)
              · refine lv_if_ne (tgt := 187) hx hb d_R_sense_175 rfl (fun h43 => ?_) (fun h43 => ?_)
                · refine lv_iconst (v := 0) hx hb d_R_sense_187 (by decide) ?_
                  exact hJ14 _ 0 (lv_sub hl [0, 1, 2] rfl) (by rw [F_R_sense_j13, if_neg h43])
                · refine lv_aload_n hx hb d_R_sense_178 rfl (lv_at hl 2 rfl) ?_
                  refine va_get (D := (dC, dI)) (ci := 10) (v := .int (M.1 118)) (C := "CentrifugeUnitModel") (T := xF10) (N := 45) hx hb htt xin10 hown hK hP 0 rfl rfl 33 (by decide) (htt _ tw_812) (fun _ h9 => h9) rfl d_R_sense_179 ?_
                  refine lv_iconst (v := 1) hx hb d_R_sense_182 (by decide) ?_
                  refine lv_iadd hx hb d_R_sense_183 ?_
                  refine lv_goto (tgt := 188) hx hb d_R_sense_184 rfl ?_
                  exact hJ14 _ ((M.1 118) + 1) (lv_sub hl [0, 1, 2] rfl) (by rw [F_R_sense_j13, if_pos h43])
              · refine va_put (D := (dC, dI)) (ci := 10) (v := .int j13) (ty := .int) (C := "CentrifugeUnitModel") (T := xF10) (N := 45) hx hb htt xin10 xT10 xTo10 xNm10 hown hK hP hD hS 0 rfl rfl 33 (by decide) (htt _ tw_812) (fun _ h9 => h9) rfl (by decide +kernel) rfl rfl (Nat.le_of_ble_eq_true rfl) d_R_sense_188 (fun H locs hP hD hS => ?_)
                have hP : va_P (dC, dI) xcl [(A 20, .inr (10, [.int (M.1 100), .ref (A 21), .ref (A 22), .ref (A 23), .ref (A 24), .ref (A 25), .int (M.1 101), .ref (A 26), .ref (A 27), .ref (A 28), .int (M.1 102), .long (M.2.1 100), .int (M.1 103), .int (M.1 104), .int (M.1 105), .int (M.1 106), .int (M.1 107), .int (M.1 108), .long j7, .long j9, .long j11, .int (M.1 109), .int (M.1 110), .int (M.1 111), .int (M.1 112), .int (M.1 113), .long (M.2.1 104), .long (M.2.1 105), .long (M.2.1 106), .int (M.1 114), .int (M.1 115), .int (M.1 116), .int (M.1 117), .int j13, .int (M.1 119), .int (M.1 120), .int (M.1 121), .int (M.1 122), .int (M.1 123), .int (M.1 124), .long (M.2.1 107), .int (M.1 125), .ref (A 29), .ref (A 30), .ref (A 31)])), (A 21, .inl (Z 2, 4, .inl (M.2.2.1 21))), (A 22, .inl (Z 0, 4, .inl (M.2.2.1 22)))] H := hP
                have hD : va_D AA [(A 20, .inr (10, [.int (M.1 100), .ref (A 21), .ref (A 22), .ref (A 23), .ref (A 24), .ref (A 25), .int (M.1 101), .ref (A 26), .ref (A 27), .ref (A 28), .int (M.1 102), .long (M.2.1 100), .int (M.1 103), .int (M.1 104), .int (M.1 105), .int (M.1 106), .int (M.1 107), .int (M.1 108), .long j7, .long j9, .long j11, .int (M.1 109), .int (M.1 110), .int (M.1 111), .int (M.1 112), .int (M.1 113), .long (M.2.1 104), .long (M.2.1 105), .long (M.2.1 106), .int (M.1 114), .int (M.1 115), .int (M.1 116), .int (M.1 117), .int j13, .int (M.1 119), .int (M.1 120), .int (M.1 121), .int (M.1 122), .int (M.1 123), .int (M.1 124), .long (M.2.1 107), .int (M.1 125), .ref (A 29), .ref (A 30), .ref (A 31)])), (A 21, .inl (Z 2, 4, .inl (M.2.2.1 21))), (A 22, .inl (Z 0, 4, .inl (M.2.2.1 22)))] := hD
                refine lv_aload_n hx hb d_R_sense_191 rfl (lv_at hl 2 rfl) ?_
                refine lv_aload_n hx hb d_R_sense_192 rfl (lv_at hl 2 rfl) ?_
                refine va_get (D := (dC, dI)) (ci := 10) (v := .int (M.1 123)) (C := "CentrifugeUnitModel") (T := xF10) (N := 45) hx hb htt xin10 hown hK hP 0 rfl rfl 38 (by decide) (htt _ tw_817) (fun _ h9 => h9) rfl d_R_sense_193 ?_
                refine lv_i2l (v := ((M.1 123)).toInt64) hx hb d_R_sense_196 rfl ?_
                refine lv_ldc2 (v := 200) hx hb hown (htt _ tw_1014) d_R_sense_197 ?_
                refine lv_aload_n hx hb d_R_sense_200 rfl (lv_at hl 2 rfl) ?_
                refine va_get (D := (dC, dI)) (ci := 10) (v := .long j11) (C := "CentrifugeUnitModel") (T := xF10) (N := 45) hx hb htt xin10 hown hK hP 0 rfl rfl 20 (by decide) (htt _ tw_799) (fun _ h9 => h9) rfl d_R_sense_201 ?_
                refine lv_ldc2 (v := 20) hx hb hown (htt _ tw_1015) d_R_sense_204 ?_
                refine lv_ldiv hx hb d_R_sense_207 (by decide) ?_
                refine lv_ladd hx hb d_R_sense_208 ?_
                refine W.lcmp hx hb d_R_sense_209 ?_
                refine xj_p 7 223 (fun q9 : Int32 => [(3, .long j3), (1, .long j1), (0, .ref (A 20))]) (fun q9 : Int32 => [.int q9, .ref (A 20)]) (fun q9 : Int32 => q9 = F_R_sense_j15 M j1 j3 j5 j7 j9 j11 j13) (fun hJ16 => ?_) (fun ls j15 hl hj15 => ?_)
                · refine lv_if_le (tgt := 222) hx hb d_R_sense_210 rfl (fun h42 => ?_) (fun h42 => ?_)
                  · refine lv_iconst (v := 0) hx hb d_R_sense_222 (by decide) ?_
                    exact hJ16 _ 0 (lv_sub hl [0, 1, 2] rfl) (by rw [F_R_sense_j15, if_pos h42])
                  · refine lv_aload_n hx hb d_R_sense_213 rfl (lv_at hl 2 rfl) ?_
                    refine va_get (D := (dC, dI)) (ci := 10) (v := .int (M.1 119)) (C := "CentrifugeUnitModel") (T := xF10) (N := 45) hx hb htt xin10 hown hK hP 0 rfl rfl 34 (by decide) (htt _ tw_813) (fun _ h9 => h9) rfl d_R_sense_214 ?_
                    refine lv_iconst (v := 1) hx hb d_R_sense_217 (by decide) ?_
                    refine lv_iadd hx hb d_R_sense_218 ?_
                    refine lv_goto (tgt := 223) hx hb d_R_sense_219 rfl ?_
                    exact hJ16 _ ((M.1 119) + 1) (lv_sub hl [0, 1, 2] rfl) (by rw [F_R_sense_j15, if_neg h42])
                · refine va_put (D := (dC, dI)) (ci := 10) (v := .int j15) (ty := .int) (C := "CentrifugeUnitModel") (T := xF10) (N := 45) hx hb htt xin10 xT10 xTo10 xNm10 hown hK hP hD hS 0 rfl rfl 34 (by decide) (htt _ tw_813) (fun _ h9 => h9) rfl (by decide +kernel) rfl rfl (Nat.le_of_ble_eq_true rfl) d_R_sense_223 (fun H locs hP hD hS => ?_)
                  have hP : va_P (dC, dI) xcl [(A 20, .inr (10, [.int (M.1 100), .ref (A 21), .ref (A 22), .ref (A 23), .ref (A 24), .ref (A 25), .int (M.1 101), .ref (A 26), .ref (A 27), .ref (A 28), .int (M.1 102), .long (M.2.1 100), .int (M.1 103), .int (M.1 104), .int (M.1 105), .int (M.1 106), .int (M.1 107), .int (M.1 108), .long j7, .long j9, .long j11, .int (M.1 109), .int (M.1 110), .int (M.1 111), .int (M.1 112), .int (M.1 113), .long (M.2.1 104), .long (M.2.1 105), .long (M.2.1 106), .int (M.1 114), .int (M.1 115), .int (M.1 116), .int (M.1 117), .int j13, .int j15, .int (M.1 120), .int (M.1 121), .int (M.1 122), .int (M.1 123), .int (M.1 124), .long (M.2.1 107), .int (M.1 125), .ref (A 29), .ref (A 30), .ref (A 31)])), (A 21, .inl (Z 2, 4, .inl (M.2.2.1 21))), (A 22, .inl (Z 0, 4, .inl (M.2.2.1 22)))] H := hP
                  have hD : va_D AA [(A 20, .inr (10, [.int (M.1 100), .ref (A 21), .ref (A 22), .ref (A 23), .ref (A 24), .ref (A 25), .int (M.1 101), .ref (A 26), .ref (A 27), .ref (A 28), .int (M.1 102), .long (M.2.1 100), .int (M.1 103), .int (M.1 104), .int (M.1 105), .int (M.1 106), .int (M.1 107), .int (M.1 108), .long j7, .long j9, .long j11, .int (M.1 109), .int (M.1 110), .int (M.1 111), .int (M.1 112), .int (M.1 113), .long (M.2.1 104), .long (M.2.1 105), .long (M.2.1 106), .int (M.1 114), .int (M.1 115), .int (M.1 116), .int (M.1 117), .int j13, .int j15, .int (M.1 120), .int (M.1 121), .int (M.1 122), .int (M.1 123), .int (M.1 124), .long (M.2.1 107), .int (M.1 125), .ref (A 29), .ref (A 30), .ref (A 31)])), (A 21, .inl (Z 2, 4, .inl (M.2.2.1 21))), (A 22, .inl (Z 0, 4, .inl (M.2.2.1 22)))] := hD
                  refine lv_aload_n hx hb d_R_sense_226 rfl (lv_at hl 2 rfl) ?_
                  refine va_get (D := (dC, dI)) (ci := 10) (v := .long j7) (C := "CentrifugeUnitModel") (T := xF10) (N := 45) hx hb htt xin10 hown hK hP 0 rfl rfl 18 (by decide) (htt _ tw_797) (fun _ h9 => h9) rfl d_R_sense_227 ?_
                  refine lv_aload_n hx hb d_R_sense_230 rfl (lv_at hl 2 rfl) ?_
                  refine va_get (D := (dC, dI)) (ci := 10) (v := .long j9) (C := "CentrifugeUnitModel") (T := xF10) (N := 45) hx hb htt xin10 hown hK hP 0 rfl rfl 19 (by decide) (htt _ tw_798) (fun _ h9 => h9) rfl d_R_sense_231 ?_
                  refine W.lcmp hx hb d_R_sense_234 ?_
                  refine xj_p 7 259 (fun q9 : Int64 => [(3, .long j3), (1, .long j1), (0, .ref (A 20))]) (fun q9 : Int64 => [.long q9]) (fun q9 : Int64 => q9 = F_R_sense_j17 M j1 j3 j5 j7 j9 j11 j13 j15) (fun hJ18 => ?_) (fun ls j17 hl hj17 => ?_)
                  · refine lv_if_le (tgt := 250) hx hb d_R_sense_235 rfl (fun h41 => ?_) (fun h41 => ?_)
                    · refine lv_aload_n hx hb d_R_sense_250 rfl (lv_at hl 2 rfl) ?_
                      refine va_get (D := (dC, dI)) (ci := 10) (v := .long j9) (C := "CentrifugeUnitModel") (T := xF10) (N := 45) hx hb htt xin10 hown hK hP 0 rfl rfl 19 (by decide) (htt _ tw_798) (fun _ h9 => h9) rfl d_R_sense_251 ?_
                      refine lv_aload_n hx hb d_R_sense_254 rfl (lv_at hl 2 rfl) ?_
                      refine va_get (D := (dC, dI)) (ci := 10) (v := .long j7) (C := "CentrifugeUnitModel") (T := xF10) (N := 45) hx hb htt xin10 hown hK hP 0 rfl rfl 18 (by decide) (htt _ tw_797) (fun _ h9 => h9) rfl d_R_sense_255 ?_
                      refine lv_lsub hx hb d_R_sense_258 ?_
                      exact hJ18 _ (j9 - j7) (lv_sub hl [0, 1, 2] rfl) (by rw [F_R_sense_j17, if_pos h41])
                    · refine lv_aload_n hx hb d_R_sense_238 rfl (lv_at hl 2 rfl) ?_
                      refine va_get (D := (dC, dI)) (ci := 10) (v := .long j7) (C := "CentrifugeUnitModel") (T := xF10) (N := 45) hx hb htt xin10 hown hK hP 0 rfl rfl 18 (by decide) (htt _ tw_797) (fun _ h9 => h9) rfl d_R_sense_239 ?_
                      refine lv_aload_n hx hb d_R_sense_242 rfl (lv_at hl 2 rfl) ?_
                      refine va_get (D := (dC, dI)) (ci := 10) (v := .long j9) (C := "CentrifugeUnitModel") (T := xF10) (N := 45) hx hb htt xin10 hown hK hP 0 rfl rfl 19 (by decide) (htt _ tw_798) (fun _ h9 => h9) rfl d_R_sense_243 ?_
                      refine lv_lsub hx hb d_R_sense_246 ?_
                      refine lv_goto (tgt := 259) hx hb d_R_sense_247 rfl ?_
                      exact hJ18 _ (j7 - j9) (lv_sub hl [0, 1, 2] rfl) (by rw [F_R_sense_j17, if_neg h41])
                  · refine lv_lstore (lv' := [(5, .long j17), (3, .long j3), (1, .long j1), (0, .ref (A 20))]) hx hb d_R_sense_259 hl (by decide) rfl (fun ls hl => ?_)
                    refine lv_aload_n hx hb d_R_sense_261 rfl (lv_at hl 3 rfl) ?_
                    refine lv_lload hx hb d_R_sense_262 (lv_at hl 0 rfl) ?_
                    refine lv_ldc2 (v := 100) hx hb hown (htt _ tw_931) d_R_sense_264 ?_
                    refine lv_aload_n hx hb d_R_sense_267 rfl (lv_at hl 3 rfl) ?_
                    refine va_get (D := (dC, dI)) (ci := 10) (v := .long j11) (C := "CentrifugeUnitModel") (T := xF10) (N := 45) hx hb htt xin10 hown hK hP 0 rfl rfl 20 (by decide) (htt _ tw_799) (fun _ h9 => h9) rfl d_R_sense_268 ?_
                    refine lv_ldc2 (v := 10) hx hb hown (htt _ tw_929) d_R_sense_271 ?_
                    refine lv_ldiv hx hb d_R_sense_274 (by decide) ?_
                    refine lv_ladd hx hb d_R_sense_275 ?_
                    refine W.lcmp hx hb d_R_sense_276 ?_
                    refine xj_p 7 290 (fun q9 : Int32 => [(5, .long j17), (3, .long j3), (1, .long j1), (0, .ref (A 20))]) (fun q9 : Int32 => [.int q9, .ref (A 20)]) (fun q9 : Int32 => q9 = F_R_sense_j19 M j1 j3 j5 j7 j9 j11 j13 j15 j17) (fun hJ20 => ?_) (fun ls j19 hl hj19 => ?_)
                    · refine lv_if_le (tgt := 289) hx hb d_R_sense_277 rfl (fun h40 => ?_) (fun h40 => ?_)
                      · refine lv_iconst (v := 0) hx hb d_R_sense_289 (by decide) ?_
                        exact hJ20 _ 0 (lv_sub hl [0, 1, 2, 3] rfl) (by rw [F_R_sense_j19, if_pos h40])
                      · refine lv_aload_n hx hb d_R_sense_280 rfl (lv_at hl 3 rfl) ?_
                        refine va_get (D := (dC, dI)) (ci := 10) (v := .int (M.1 120)) (C := "CentrifugeUnitModel") (T := xF10) (N := 45) hx hb htt xin10 hown hK hP 0 rfl rfl 35 (by decide) (htt _ tw_814) (fun _ h9 => h9) rfl d_R_sense_281 ?_
                        refine lv_iconst (v := 1) hx hb d_R_sense_284 (by decide) ?_
                        refine lv_iadd hx hb d_R_sense_285 ?_
                        refine lv_goto (tgt := 290) hx hb d_R_sense_286 rfl ?_
                        exact hJ20 _ ((M.1 120) + 1) (lv_sub hl [0, 1, 2, 3] rfl) (by rw [F_R_sense_j19, if_neg h40])
                    · refine va_put (D := (dC, dI)) (ci := 10) (v := .int j19) (ty := .int) (C := "CentrifugeUnitModel") (T := xF10) (N := 45) hx hb htt xin10 xT10 xTo10 xNm10 hown hK hP hD hS 0 rfl rfl 35 (by decide) (htt _ tw_814) (fun _ h9 => h9) rfl (by decide +kernel) rfl rfl (Nat.le_of_ble_eq_true rfl) d_R_sense_290 (fun H locs hP hD hS => ?_)
                      have hP : va_P (dC, dI) xcl [(A 20, .inr (10, [.int (M.1 100), .ref (A 21), .ref (A 22), .ref (A 23), .ref (A 24), .ref (A 25), .int (M.1 101), .ref (A 26), .ref (A 27), .ref (A 28), .int (M.1 102), .long (M.2.1 100), .int (M.1 103), .int (M.1 104), .int (M.1 105), .int (M.1 106), .int (M.1 107), .int (M.1 108), .long j7, .long j9, .long j11, .int (M.1 109), .int (M.1 110), .int (M.1 111), .int (M.1 112), .int (M.1 113), .long (M.2.1 104), .long (M.2.1 105), .long (M.2.1 106), .int (M.1 114), .int (M.1 115), .int (M.1 116), .int (M.1 117), .int j13, .int j15, .int j19, .int (M.1 121), .int (M.1 122), .int (M.1 123), .int (M.1 124), .long (M.2.1 107), .int (M.1 125), .ref (A 29), .ref (A 30), .ref (A 31)])), (A 21, .inl (Z 2, 4, .inl (M.2.2.1 21))), (A 22, .inl (Z 0, 4, .inl (M.2.2.1 22)))] H := hP
                      have hD : va_D AA [(A 20, .inr (10, [.int (M.1 100), .ref (A 21), .ref (A 22), .ref (A 23), .ref (A 24), .ref (A 25), .int (M.1 101), .ref (A 26), .ref (A 27), .ref (A 28), .int (M.1 102), .long (M.2.1 100), .int (M.1 103), .int (M.1 104), .int (M.1 105), .int (M.1 106), .int (M.1 107), .int (M.1 108), .long j7, .long j9, .long j11, .int (M.1 109), .int (M.1 110), .int (M.1 111), .int (M.1 112), .int (M.1 113), .long (M.2.1 104), .long (M.2.1 105), .long (M.2.1 106), .int (M.1 114), .int (M.1 115), .int (M.1 116), .int (M.1 117), .int j13, .int j15, .int j19, .int (M.1 121), .int (M.1 122), .int (M.1 123), .int (M.1 124), .long (M.2.1 107), .int (M.1 125), .ref (A 29), .ref (A 30), .ref (A 31)])), (A 21, .inl (Z 2, 4, .inl (M.2.2.1 21))), (A 22, .inl (Z 0, 4, .inl (M.2.2.1 22)))] := hD
                      refine lv_aload_n hx hb d_R_sense_293 rfl (lv_at hl 3 rfl) ?_
                      refine va_get (D := (dC, dI)) (ci := 10) (v := .int (M.1 110)) (C := "CentrifugeUnitModel") (T := xF10) (N := 45) hx hb htt xin10 hown hK hP 0 rfl rfl 22 (by decide) (htt _ tw_801) (fun _ h9 => h9) rfl d_R_sense_294 ?_
                      refine xj_h (D := (dC, dI)) (cl := xcl) (AA := AA) (H0 := s.heap) 7 327 (fun q9 : Int64 => [(5, .long j17), (3, .long j3), (1, .long j1), (0, .ref (A 20))]) (fun q9 : Int64 => []) (fun q9 : Int64 => [(A 20, .inr (10, [.int (M.1 100), .ref (A 21), .ref (A 22), .ref (A 23), .ref (A 24), .ref (A 25), .int (M.1 101), .ref (A 26), .ref (A 27), .ref (A 28), .int (M.1 102), .long (M.2.1 100), .int (M.1 103), .int (M.1 104), .int (M.1 105), .int (M.1 106), .int (M.1 107), .int (M.1 108), .long j7, .long j9, .long j11, .int (M.1 109), .int (M.1 110), .int (M.1 111), .int (M.1 112), .int (M.1 113), .long (M.2.1 104), .long (M.2.1 105), .long (M.2.1 106), .int (M.1 114), .int (M.1 115), .int (M.1 116), .int (M.1 117), .int j13, .int j15, .int j19, .int (M.1 121), .int (M.1 122), .int (M.1 123), .int (M.1 124), .long q9, .int (M.1 125), .ref (A 29), .ref (A 30), .ref (A 31)])), (A 21, .inl (Z 2, 4, .inl (M.2.2.1 21))), (A 22, .inl (Z 0, 4, .inl (M.2.2.1 22)))]) (fun q9 : Int64 => q9 = F_R_sense_j23 M j1 j3 j5 j7 j9 j11 j13 j15 j17 j19) (fun hJ22 => ?_) (fun H locs ls j21 hP hD hS hl hj21 => ?_)
                      · refine lv_if_eq (tgt := 327) hx hb d_R_sense_297 rfl (fun h36 => ?_) (fun h36 => ?_)
                        · exact hJ22 _ _ _ (M.2.1 107) (hP.sub [0, 1, 2] rfl) (hD.sub [0, 1, 2] (by decide) rfl) hS (lv_sub hl [0, 1, 2, 3] rfl) (by rw [F_R_sense_j23, if_pos h36])
                        · refine lv_aload_n hx hb d_R_sense_300 rfl (lv_at hl 3 rfl) ?_
                          refine lv_aload_n hx hb d_R_sense_301 rfl (lv_at hl 3 rfl) ?_
                          refine va_get (D := (dC, dI)) (ci := 10) (v := .long j11) (C := "CentrifugeUnitModel") (T := xF10) (N := 45) hx hb htt xin10 hown hK hP 0 rfl rfl 20 (by decide) (htt _ tw_799) (fun _ h9 => h9) rfl d_R_sense_302 ?_
                          refine lv_aload_n hx hb d_R_sense_305 rfl (lv_at hl 3 rfl) ?_
                          refine va_get (D := (dC, dI)) (ci := 10) (v := .long (M.2.1 107)) (C := "CentrifugeUnitModel") (T := xF10) (N := 45) hx hb htt xin10 hown hK hP 0 rfl rfl 40 (by decide) (htt _ tw_819) (fun _ h9 => h9) rfl d_R_sense_306 ?_
                          refine W.lcmp hx hb d_R_sense_309 ?_
                          refine xj_p 7 324 (fun q9 : Int64 => [(5, .long j17), (3, .long j3), (1, .long j1), (0, .ref (A 20))]) (fun q9 : Int64 => [.long q9, .ref (A 20)]) (fun q9 : Int64 => q9 = F_R_sense_j21 M j1 j3 j5 j7 j9 j11 j13 j15 j17 j19) (fun hJ38 => ?_) (fun ls j37 hl hj37 => ?_)
                          · refine lv_if_le (tgt := 320) hx hb d_R_sense_310 rfl (fun h39 => ?_) (fun h39 => ?_)
                            · refine lv_aload_n hx hb d_R_sense_320 rfl (lv_at hl 3 rfl) ?_
                              refine va_get (D := (dC, dI)) (ci := 10) (v := .long (M.2.1 107)) (C := "CentrifugeUnitModel") (T := xF10) (N := 45) hx hb htt xin10 hown hK hP 0 rfl rfl 40 (by decide) (htt _ tw_819) (fun _ h9 => h9) rfl d_R_sense_321 ?_
                              exact hJ38 _ (M.2.1 107) (lv_sub hl [0, 1, 2, 3] rfl) (by rw [F_R_sense_j21, if_pos h39])
                            · refine lv_aload_n hx hb d_R_sense_313 rfl (lv_at hl 3 rfl) ?_
                              refine va_get (D := (dC, dI)) (ci := 10) (v := .long j11) (C := "CentrifugeUnitModel") (T := xF10) (N := 45) hx hb htt xin10 hown hK hP 0 rfl rfl 20 (by decide) (htt _ tw_799) (fun _ h9 => h9) rfl d_R_sense_314 ?_
                              refine lv_goto (tgt := 324) hx hb d_R_sense_317 rfl ?_
                              exact hJ38 _ j11 (lv_sub hl [0, 1, 2, 3] rfl) (by rw [F_R_sense_j21, if_neg h39])
                          · refine va_put (D := (dC, dI)) (ci := 10) (v := .long j37) (ty := .long) (C := "CentrifugeUnitModel") (T := xF10) (N := 45) hx hb htt xin10 xT10 xTo10 xNm10 hown hK hP hD hS 0 rfl rfl 40 (by decide) (htt _ tw_819) (fun _ h9 => h9) rfl (by decide +kernel) rfl rfl (Nat.le_of_ble_eq_true rfl) d_R_sense_324 (fun H locs hP hD hS => ?_)
                            have hP : va_P (dC, dI) xcl [(A 20, .inr (10, [.int (M.1 100), .ref (A 21), .ref (A 22), .ref (A 23), .ref (A 24), .ref (A 25), .int (M.1 101), .ref (A 26), .ref (A 27), .ref (A 28), .int (M.1 102), .long (M.2.1 100), .int (M.1 103), .int (M.1 104), .int (M.1 105), .int (M.1 106), .int (M.1 107), .int (M.1 108), .long j7, .long j9, .long j11, .int (M.1 109), .int (M.1 110), .int (M.1 111), .int (M.1 112), .int (M.1 113), .long (M.2.1 104), .long (M.2.1 105), .long (M.2.1 106), .int (M.1 114), .int (M.1 115), .int (M.1 116), .int (M.1 117), .int j13, .int j15, .int j19, .int (M.1 121), .int (M.1 122), .int (M.1 123), .int (M.1 124), .long j37, .int (M.1 125), .ref (A 29), .ref (A 30), .ref (A 31)])), (A 21, .inl (Z 2, 4, .inl (M.2.2.1 21))), (A 22, .inl (Z 0, 4, .inl (M.2.2.1 22)))] H := hP
                            have hD : va_D AA [(A 20, .inr (10, [.int (M.1 100), .ref (A 21), .ref (A 22), .ref (A 23), .ref (A 24), .ref (A 25), .int (M.1 101), .ref (A 26), .ref (A 27), .ref (A 28), .int (M.1 102), .long (M.2.1 100), .int (M.1 103), .int (M.1 104), .int (M.1 105), .int (M.1 106), .int (M.1 107), .int (M.1 108), .long j7, .long j9, .long j11, .int (M.1 109), .int (M.1 110), .int (M.1 111), .int (M.1 112), .int (M.1 113), .long (M.2.1 104), .long (M.2.1 105), .long (M.2.1 106), .int (M.1 114), .int (M.1 115), .int (M.1 116), .int (M.1 117), .int j13, .int j15, .int j19, .int (M.1 121), .int (M.1 122), .int (M.1 123), .int (M.1 124), .long j37, .int (M.1 125), .ref (A 29), .ref (A 30), .ref (A 31)])), (A 21, .inl (Z 2, 4, .inl (M.2.2.1 21))), (A 22, .inl (Z 0, 4, .inl (M.2.2.1 22)))] := hD
                            exact hJ22 _ _ _ j37 (hP.sub [0, 1, 2] rfl) (hD.sub [0, 1, 2] (by decide) rfl) hS (lv_sub hl [0, 1, 2, 3] rfl) (by rw [F_R_sense_j23, if_neg h36, ← hj37, F_R_sense_k22])
                      · refine lv_aload_n hx hb d_R_sense_327 rfl (lv_at hl 3 rfl) ?_
                        refine lv_dup hx hb d_R_sense_328 rfl ?_
                        refine va_get (D := (dC, dI)) (ci := 10) (v := .long (M.2.1 106)) (C := "CentrifugeUnitModel") (T := xF10) (N := 45) hx hb htt xin10 hown hK hP 0 rfl rfl 28 (by decide) (htt _ tw_807) (fun _ h9 => h9) rfl d_R_sense_329 ?_
                        refine lv_aload_n hx hb d_R_sense_332 rfl (lv_at hl 3 rfl) ?_
                        refine va_get (D := (dC, dI)) (ci := 10) (v := .long j11) (C := "CentrifugeUnitModel") (T := xF10) (N := 45) hx hb htt xin10 hown hK hP 0 rfl rfl 20 (by decide) (htt _ tw_799) (fun _ h9 => h9) rfl d_R_sense_333 ?_
                        refine lv_ladd hx hb d_R_sense_336 ?_
                        refine va_put (D := (dC, dI)) (ci := 10) (v := .long ((M.2.1 106) + j11)) (ty := .long) (C := "CentrifugeUnitModel") (T := xF10) (N := 45) hx hb htt xin10 xT10 xTo10 xNm10 hown hK hP hD hS 0 rfl rfl 28 (by decide) (htt _ tw_807) (fun _ h9 => h9) rfl (by decide +kernel) rfl rfl (Nat.le_of_ble_eq_true rfl) d_R_sense_337 (fun H locs hP hD hS => ?_)
                        have hP : va_P (dC, dI) xcl [(A 20, .inr (10, [.int (M.1 100), .ref (A 21), .ref (A 22), .ref (A 23), .ref (A 24), .ref (A 25), .int (M.1 101), .ref (A 26), .ref (A 27), .ref (A 28), .int (M.1 102), .long (M.2.1 100), .int (M.1 103), .int (M.1 104), .int (M.1 105), .int (M.1 106), .int (M.1 107), .int (M.1 108), .long j7, .long j9, .long j11, .int (M.1 109), .int (M.1 110), .int (M.1 111), .int (M.1 112), .int (M.1 113), .long (M.2.1 104), .long (M.2.1 105), .long ((M.2.1 106) + j11), .int (M.1 114), .int (M.1 115), .int (M.1 116), .int (M.1 117), .int j13, .int j15, .int j19, .int (M.1 121), .int (M.1 122), .int (M.1 123), .int (M.1 124), .long j21, .int (M.1 125), .ref (A 29), .ref (A 30), .ref (A 31)])), (A 21, .inl (Z 2, 4, .inl (M.2.2.1 21))), (A 22, .inl (Z 0, 4, .inl (M.2.2.1 22)))] H := hP
                        have hD : va_D AA [(A 20, .inr (10, [.int (M.1 100), .ref (A 21), .ref (A 22), .ref (A 23), .ref (A 24), .ref (A 25), .int (M.1 101), .ref (A 26), .ref (A 27), .ref (A 28), .int (M.1 102), .long (M.2.1 100), .int (M.1 103), .int (M.1 104), .int (M.1 105), .int (M.1 106), .int (M.1 107), .int (M.1 108), .long j7, .long j9, .long j11, .int (M.1 109), .int (M.1 110), .int (M.1 111), .int (M.1 112), .int (M.1 113), .long (M.2.1 104), .long (M.2.1 105), .long ((M.2.1 106) + j11), .int (M.1 114), .int (M.1 115), .int (M.1 116), .int (M.1 117), .int j13, .int j15, .int j19, .int (M.1 121), .int (M.1 122), .int (M.1 123), .int (M.1 124), .long j21, .int (M.1 125), .ref (A 29), .ref (A 30), .ref (A 31)])), (A 21, .inl (Z 2, 4, .inl (M.2.2.1 21))), (A 22, .inl (Z 0, 4, .inl (M.2.2.1 22)))] := hD
                        refine lv_aload_n hx hb d_R_sense_340 rfl (lv_at hl 3 rfl) ?_
                        refine lv_iconst (v := 0) hx hb d_R_sense_341 (by decide) ?_
                        refine va_put (D := (dC, dI)) (ci := 10) (v := .int 0) (ty := .boolean) (C := "CentrifugeUnitModel") (T := xF10) (N := 45) hx hb htt xin10 xT10 xTo10 xNm10 hown hK hP hD hS 0 rfl rfl 32 (by decide) (htt _ tw_811) (fun _ h9 => h9) rfl (by decide +kernel) rfl rfl (Nat.le_of_ble_eq_true rfl) d_R_sense_342 (fun H locs hP hD hS => ?_)
                        have hP : va_P (dC, dI) xcl [(A 20, .inr (10, [.int (M.1 100), .ref (A 21), .ref (A 22), .ref (A 23), .ref (A 24), .ref (A 25), .int (M.1 101), .ref (A 26), .ref (A 27), .ref (A 28), .int (M.1 102), .long (M.2.1 100), .int (M.1 103), .int (M.1 104), .int (M.1 105), .int (M.1 106), .int (M.1 107), .int (M.1 108), .long j7, .long j9, .long j11, .int (M.1 109), .int (M.1 110), .int (M.1 111), .int (M.1 112), .int (M.1 113), .long (M.2.1 104), .long (M.2.1 105), .long ((M.2.1 106) + j11), .int (M.1 114), .int (M.1 115), .int (M.1 116), .int 0, .int j13, .int j15, .int j19, .int (M.1 121), .int (M.1 122), .int (M.1 123), .int (M.1 124), .long j21, .int (M.1 125), .ref (A 29), .ref (A 30), .ref (A 31)])), (A 21, .inl (Z 2, 4, .inl (M.2.2.1 21))), (A 22, .inl (Z 0, 4, .inl (M.2.2.1 22)))] H := hP
                        have hD : va_D AA [(A 20, .inr (10, [.int (M.1 100), .ref (A 21), .ref (A 22), .ref (A 23), .ref (A 24), .ref (A 25), .int (M.1 101), .ref (A 26), .ref (A 27), .ref (A 28), .int (M.1 102), .long (M.2.1 100), .int (M.1 103), .int (M.1 104), .int (M.1 105), .int (M.1 106), .int (M.1 107), .int (M.1 108), .long j7, .long j9, .long j11, .int (M.1 109), .int (M.1 110), .int (M.1 111), .int (M.1 112), .int (M.1 113), .long (M.2.1 104), .long (M.2.1 105), .long ((M.2.1 106) + j11), .int (M.1 114), .int (M.1 115), .int (M.1 116), .int 0, .int j13, .int j15, .int j19, .int (M.1 121), .int (M.1 122), .int (M.1 123), .int (M.1 124), .long j21, .int (M.1 125), .ref (A 29), .ref (A 30), .ref (A 31)])), (A 21, .inl (Z 2, 4, .inl (M.2.2.1 21))), (A 22, .inl (Z 0, 4, .inl (M.2.2.1 22)))] := hD
                        refine lv_aload_n hx hb d_R_sense_345 rfl (lv_at hl 3 rfl) ?_
                        refine va_get (D := (dC, dI)) (ci := 10) (v := .long ((M.2.1 106) + j11)) (C := "CentrifugeUnitModel") (T := xF10) (N := 45) hx hb htt xin10 hown hK hP 0 rfl rfl 28 (by decide) (htt _ tw_807) (fun _ h9 => h9) rfl d_R_sense_346 ?_
                        refine lv_ldc2 (v := 300000) hx hb hown (htt _ tw_1016) d_R_sense_349 ?_
                        refine W.lcmp hx hb d_R_sense_352 ?_
                        refine lv_if_ge (tgt := 357) hx hb d_R_sense_353 rfl (fun h23 => ?_) (fun h23 => ?_)
                        · refine lv_aload_n hx hb d_R_sense_357 rfl (lv_at hl 3 rfl) ?_
                          refine lv_lconst (v := 0) hx hb d_R_sense_358 (by decide) ?_
                          refine va_put (D := (dC, dI)) (ci := 10) (v := .long 0) (ty := .long) (C := "CentrifugeUnitModel") (T := xF10) (N := 45) hx hb htt xin10 xT10 xTo10 xNm10 hown hK hP hD hS 0 rfl rfl 28 (by decide) (htt _ tw_807) (fun _ h9 => h9) rfl (by decide +kernel) rfl rfl (Nat.le_of_ble_eq_true rfl) d_R_sense_359 (fun H locs hP hD hS => ?_)
                          have hP : va_P (dC, dI) xcl [(A 20, .inr (10, [.int (M.1 100), .ref (A 21), .ref (A 22), .ref (A 23), .ref (A 24), .ref (A 25), .int (M.1 101), .ref (A 26), .ref (A 27), .ref (A 28), .int (M.1 102), .long (M.2.1 100), .int (M.1 103), .int (M.1 104), .int (M.1 105), .int (M.1 106), .int (M.1 107), .int (M.1 108), .long j7, .long j9, .long j11, .int (M.1 109), .int (M.1 110), .int (M.1 111), .int (M.1 112), .int (M.1 113), .long (M.2.1 104), .long (M.2.1 105), .long 0, .int (M.1 114), .int (M.1 115), .int (M.1 116), .int 0, .int j13, .int j15, .int j19, .int (M.1 121), .int (M.1 122), .int (M.1 123), .int (M.1 124), .long j21, .int (M.1 125), .ref (A 29), .ref (A 30), .ref (A 31)])), (A 21, .inl (Z 2, 4, .inl (M.2.2.1 21))), (A 22, .inl (Z 0, 4, .inl (M.2.2.1 22)))] H := hP
                          have hD : va_D AA [(A 20, .inr (10, [.int (M.1 100), .ref (A 21), .ref (A 22), .ref (A 23), .ref (A 24), .ref (A 25), .int (M.1 101), .ref (A 26), .ref (A 27), .ref (A 28), .int (M.1 102), .long (M.2.1 100), .int (M.1 103), .int (M.1 104), .int (M.1 105), .int (M.1 106), .int (M.1 107), .int (M.1 108), .long j7, .long j9, .long j11, .int (M.1 109), .int (M.1 110), .int (M.1 111), .int (M.1 112), .int (M.1 113), .long (M.2.1 104), .long (M.2.1 105), .long 0, .int (M.1 114), .int (M.1 115), .int (M.1 116), .int 0, .int j13, .int j15, .int j19, .int (M.1 121), .int (M.1 122), .int (M.1 123), .int (M.1 124), .long j21, .int (M.1 125), .ref (A 29), .ref (A 30), .ref (A 31)])), (A 21, .inl (Z 2, 4, .inl (M.2.2.1 21))), (A 22, .inl (Z 0, 4, .inl (M.2.2.1 22)))] := hD
                          refine lv_aload_n hx hb d_R_sense_362 rfl (lv_at hl 3 rfl) ?_
                          refine va_get (D := (dC, dI)) (ci := 10) (v := .int (M.1 110)) (C := "CentrifugeUnitModel") (T := xF10) (N := 45) hx hb htt xin10 hown hK hP 0 rfl rfl 22 (by decide) (htt _ tw_801) (fun _ h9 => h9) rfl d_R_sense_363 ?_
                          refine lv_iconst (v := 1) hx hb d_R_sense_366 (by decide) ?_
                          refine lv_icmp_eq (tgt := 378) hx hb d_R_sense_367 rfl (fun h24 => ?_) (fun h24 => ?_)
                          · refine lv_aload_n hx hb d_R_sense_378 rfl (lv_at hl 3 rfl) ?_
                            refine lv_aload_n hx hb d_R_sense_379 rfl (lv_at hl 3 rfl) ?_
                            refine va_get (D := (dC, dI)) (ci := 10) (v := .int (M.1 101)) (C := "CentrifugeUnitModel") (T := xF10) (N := 45) hx hb htt xin10 hown hK hP 0 rfl rfl 6 (by decide) (htt _ tw_785) (fun _ h9 => h9) rfl d_R_sense_380 ?_
                            refine xj_p 7 411 (fun q9 : Int32 => [(5, .long j17), (3, .long j3), (1, .long j1), (0, .ref (A 20))]) (fun q9 : Int32 => [.int q9, .ref (A 20)]) (fun q9 : Int32 => q9 = F_R_sense_j25 M j1 j3 j5 j7 j9 j11 j13 j15 j17 j19 j21) (fun hJ26 => ?_) (fun ls j25 hl hj25 => ?_)
                            · refine lv_if_lt (tgt := 410) hx hb d_R_sense_383 rfl (fun h28 => ?_) (fun h28 => ?_)
                              · refine lv_iconst (v := (-1)) hx hb d_R_sense_410 (by decide) ?_
                                exact hJ26 _ (-1) (lv_sub hl [0, 1, 2, 3] rfl) (by rw [F_R_sense_j25, if_pos h28])
                              · refine lv_aload_n hx hb d_R_sense_386 rfl (lv_at hl 3 rfl) ?_
                                refine va_get (D := (dC, dI)) (ci := 10) (v := .ref (A 21)) (C := "CentrifugeUnitModel") (T := xF10) (N := 45) hx hb htt xin10 hown hK hP 0 rfl rfl 1 (by decide) (htt _ tw_780) (fun _ h9 => h9) rfl d_R_sense_387 ?_
                                refine lv_aload_n hx hb d_R_sense_390 rfl (lv_at hl 3 rfl) ?_
                                refine va_get (D := (dC, dI)) (ci := 10) (v := .int (M.1 101)) (C := "CentrifugeUnitModel") (T := xF10) (N := 45) hx hb htt xin10 hown hK hP 0 rfl rfl 6 (by decide) (htt _ tw_785) (fun _ h9 => h9) rfl d_R_sense_391 ?_
                                refine va_zald (D := (dC, dI)) hx hb hK hP 1 2 rfl rfl (xlt4 h28 hin) d_R_sense_394 ?_
                                refine lv_if_eq (tgt := 410) hx hb d_R_sense_395 rfl (fun h29 => ?_) (fun h29 => ?_)
                                · refine lv_iconst (v := (-1)) hx hb d_R_sense_410 (by decide) ?_
                                  exact hJ26 _ (-1) (lv_sub hl [0, 1, 2, 3] rfl) (by rw [F_R_sense_j25, if_neg h28, if_pos h29])
                                · refine lv_aload_n hx hb d_R_sense_398 rfl (lv_at hl 3 rfl) ?_
                                  refine va_get (D := (dC, dI)) (ci := 10) (v := .ref (A 22)) (C := "CentrifugeUnitModel") (T := xF10) (N := 45) hx hb htt xin10 hown hK hP 0 rfl rfl 2 (by decide) (htt _ tw_781) (fun _ h9 => h9) rfl d_R_sense_399 ?_
                                  refine lv_aload_n hx hb d_R_sense_402 rfl (lv_at hl 3 rfl) ?_
                                  refine va_get (D := (dC, dI)) (ci := 10) (v := .int (M.1 101)) (C := "CentrifugeUnitModel") (T := xF10) (N := 45) hx hb htt xin10 hown hK hP 0 rfl rfl 6 (by decide) (htt _ tw_785) (fun _ h9 => h9) rfl d_R_sense_403 ?_
                                  refine va_iald (D := (dC, dI)) hx hb hK hP 2 0 rfl rfl (xlt4 h28 hin) d_R_sense_406 ?_
                                  refine lv_goto (tgt := 411) hx hb d_R_sense_407 rfl ?_
                                  exact hJ26 _ ((M.2.2.1 22) ((M.1 101)).toNatClampNeg) (lv_sub hl [0, 1, 2, 3] rfl) (by rw [F_R_sense_j25, if_neg h28, if_neg h29])
                            · have hPc := hP.sub (ws' := [(A 20, xc20 Z A ((va_up (va_up (va_up (va_up M.1 118 j13) 119 j15) 120 j19) 117 0), (va_up (va_up (va_up (va_up (va_up M.2.1 101 j7) 102 j9) 103 j11) 107 j21) 106 0), M.2.2)), (A 21, xc21 Z A ((va_up (va_up (va_up (va_up M.1 118 j13) 119 j15) 120 j19) 117 0), (va_up (va_up (va_up (va_up (va_up M.2.1 101 j7) 102 j9) 103 j11) 107 j21) 106 0), M.2.2)), (A 22, xc22 Z A ((va_up (va_up (va_up (va_up M.1 118 j13) 119 j15) 120 j19) 117 0), (va_up (va_up (va_up (va_up (va_up M.2.1 101 j7) 102 j9) 103 j11) 107 j21) 106 0), M.2.2))]) [0, 1, 2] rfl
                              have hDc := hD.sub (ws' := [(A 20, xc20 Z A ((va_up (va_up (va_up (va_up M.1 118 j13) 119 j15) 120 j19) 117 0), (va_up (va_up (va_up (va_up (va_up M.2.1 101 j7) 102 j9) 103 j11) 107 j21) 106 0), M.2.2)), (A 21, xc21 Z A ((va_up (va_up (va_up (va_up M.1 118 j13) 119 j15) 120 j19) 117 0), (va_up (va_up (va_up (va_up (va_up M.2.1 101 j7) 102 j9) 103 j11) 107 j21) 106 0), M.2.2)), (A 22, xc22 Z A ((va_up (va_up (va_up (va_up M.1 118 j13) 119 j15) 120 j19) 117 0), (va_up (va_up (va_up (va_up (va_up M.2.1 101 j7) 102 j9) 103 j11) 107 j21) 106 0), M.2.2))]) [0, 1, 2] (by decide) rfl
                              refine xk_v (wc := [(A 20, xc20 Z A ((va_up (va_up (va_up (va_up M.1 118 j13) 119 j15) 120 j19) 117 0), (va_up (va_up (va_up (va_up (va_up M.2.1 101 j7) 102 j9) 103 j11) 107 j21) 106 0), M.2.2)), (A 21, xc21 Z A ((va_up (va_up (va_up (va_up M.1 118 j13) 119 j15) 120 j19) 117 0), (va_up (va_up (va_up (va_up (va_up M.2.1 101 j7) 102 j9) 103 j11) 107 j21) 106 0), M.2.2)), (A 22, xc22 Z A ((va_up (va_up (va_up (va_up M.1 118 j13) 119 j15) 120 j19) 117 0), (va_up (va_up (va_up (va_up (va_up M.2.1 101 j7) 102 j9) 103 j11) 107 j21) 106 0), M.2.2))]) (wr := []) (va_runV (As := [.int j25]) (rest := []) ⟨hx, hb, hml, hown, hts⟩ (c_R_read l dC dI Z A _ ((va_up (va_up (va_up (va_up M.1 118 j13) 119 j15) 120 j19) 117 0), (va_up (va_up (va_up (va_up (va_up M.2.1 101 j7) 102 j9) 103 j11) 107 j21) 106 0), M.2.2) j25) (cwV 1 hts (xw_V _ tw_1017 tw_1019 tp_17 tw_12 tw_1020) rfl rfl rfl (by decide +kernel) ⟨Nat.le_of_ble_eq_true rfl, Nat.le_of_ble_eq_true rfl⟩) ⟨xB_blind, va_recv (q0 := 0) (ci := 10) hK hP rfl rfl, fun U hU hW => ⟨rfl, xB_at hPc hK hDc hq U hU hW⟩⟩ rfl rfl hl.1 rfl (lv_room (Nat.le_of_ble_eq_true rfl)) d_R_sense_411 ⟨Nat.le_of_ble_eq_true rfl, Nat.le_of_ble_eq_true rfl⟩) hP hD hS hA [0, 1, 2] [] rfl rfl (by decide) (by decide) (fun u27 H locs hu27 hP hD hS => ?_)
                              have hP : va_P (dC, dI) xcl [(A 20, .inr (10, [.int (M.1 100), .ref (A 21), .ref (A 22), .ref (A 23), .ref (A 24), .ref (A 25), .int (M.1 101), .ref (A 26), .ref (A 27), .ref (A 28), .int (M.1 102), .long (M.2.1 100), .int (M.1 103), .int (M.1 104), .int (M.1 105), .int (M.1 106), .int (M.1 107), .int (M.1 108), .long j7, .long j9, .long j11, .int (M.1 109), .int (M.1 110), .int (M.1 111), .int (M.1 112), .int (M.1 113), .long (M.2.1 104), .long (M.2.1 105), .long 0, .int (u27.2.1), .int (u27.2.2.1), .int (u27.2.2.2), .int (u27.1), .int j13, .int j15, .int j19, .int (M.1 121), .int (M.1 122), .int (M.1 123), .int (M.1 124), .long j21, .int (M.1 125), .ref (A 29), .ref (A 30), .ref (A 31)])), (A 21, .inl (Z 2, 4, .inl (M.2.2.1 21))), (A 22, .inl (Z 0, 4, .inl (M.2.2.1 22)))] H := hP
                              have hD : va_D AA [(A 20, .inr (10, [.int (M.1 100), .ref (A 21), .ref (A 22), .ref (A 23), .ref (A 24), .ref (A 25), .int (M.1 101), .ref (A 26), .ref (A 27), .ref (A 28), .int (M.1 102), .long (M.2.1 100), .int (M.1 103), .int (M.1 104), .int (M.1 105), .int (M.1 106), .int (M.1 107), .int (M.1 108), .long j7, .long j9, .long j11, .int (M.1 109), .int (M.1 110), .int (M.1 111), .int (M.1 112), .int (M.1 113), .long (M.2.1 104), .long (M.2.1 105), .long 0, .int (u27.2.1), .int (u27.2.2.1), .int (u27.2.2.2), .int (u27.1), .int j13, .int j15, .int j19, .int (M.1 121), .int (M.1 122), .int (M.1 123), .int (M.1 124), .long j21, .int (M.1 125), .ref (A 29), .ref (A 30), .ref (A 31)])), (A 21, .inl (Z 2, 4, .inl (M.2.2.1 21))), (A 22, .inl (Z 0, 4, .inl (M.2.2.1 22)))] := hD
                              have hP9 := hP.sub (ws' := [(A 20, xc20 Z A (ap_R_sense M (j7, j9, j11, j13, j15, j19, j21, 0, (u27.1), (u27.2.1), (u27.2.2.1), (u27.2.2.2)))), (A 21, xc21 Z A (ap_R_sense M (j7, j9, j11, j13, j15, j19, j21, 0, (u27.1), (u27.2.1), (u27.2.2.1), (u27.2.2.2)))), (A 22, xc22 Z A (ap_R_sense M (j7, j9, j11, j13, j15, j19, j21, 0, (u27.1), (u27.2.1), (u27.2.2.1), (u27.2.2.2))))]) [0, 1, 2] rfl
                              have hD9 := hD.sub (ws' := [(A 20, xc20 Z A (ap_R_sense M (j7, j9, j11, j13, j15, j19, j21, 0, (u27.1), (u27.2.1), (u27.2.2.1), (u27.2.2.2)))), (A 21, xc21 Z A (ap_R_sense M (j7, j9, j11, j13, j15, j19, j21, 0, (u27.1), (u27.2.1), (u27.2.2.1), (u27.2.2.2)))), (A 22, xc22 Z A (ap_R_sense M (j7, j9, j11, j13, j15, j19, j21, 0, (u27.1), (u27.2.1), (u27.2.2.1), (u27.2.2.2))))]) [0, 1, 2] (by decide) rfl
                              exact W.vret hx hb hr (fun t ht hW => ⟨⟨(j7, j9, j11, j13, j15, j19, j21, 0, (u27.1), (u27.2.1), (u27.2.2.1), (u27.2.2.2)), rfl, (by rw [F_R_sense, ← hj1, F_R_sense_k2, ← hj3, F_R_sense_k4, ← hj5, F_R_sense_k6, ← hj7, F_R_sense_k8, ← hj9, F_R_sense_k10, ← hj11, F_R_sense_k12, ← hj13, F_R_sense_k14, ← hj15, F_R_sense_k16, ← hj17, F_R_sense_k18, ← hj19, F_R_sense_k20, ← hj21, F_R_sense_k24, if_pos h23, if_pos h24, ← hj25, F_R_sense_k26, ← hu27, F_R_sense_k27]), xE_at hP9 hK hD9 ht hW⟩, hS.F ht⟩) hS.2.2 d_R_sense_414
                          · refine lv_aload_n hx hb d_R_sense_370 rfl (lv_at hl 3 rfl) ?_
                            refine va_get (D := (dC, dI)) (ci := 10) (v := .int (M.1 110)) (C := "CentrifugeUnitModel") (T := xF10) (N := 45) hx hb htt xin10 hown hK hP 0 rfl rfl 22 (by decide) (htt _ tw_801) (fun _ h9 => h9) rfl d_R_sense_371 ?_
                            refine lv_iconst (v := 2) hx hb d_R_sense_374 (by decide) ?_
                            refine lv_icmp_ne (tgt := 414) hx hb d_R_sense_375 rfl (fun h30 => ?_) (fun h30 => ?_)
                            · have hP9 := hP.sub (ws' := [(A 20, xc20 Z A (ap_R_sense M (j7, j9, j11, j13, j15, j19, j21, 0, 0, (M.1 114), (M.1 115), (M.1 116)))), (A 21, xc21 Z A (ap_R_sense M (j7, j9, j11, j13, j15, j19, j21, 0, 0, (M.1 114), (M.1 115), (M.1 116)))), (A 22, xc22 Z A (ap_R_sense M (j7, j9, j11, j13, j15, j19, j21, 0, 0, (M.1 114), (M.1 115), (M.1 116))))]) [0, 1, 2] rfl
                              have hD9 := hD.sub (ws' := [(A 20, xc20 Z A (ap_R_sense M (j7, j9, j11, j13, j15, j19, j21, 0, 0, (M.1 114), (M.1 115), (M.1 116)))), (A 21, xc21 Z A (ap_R_sense M (j7, j9, j11, j13, j15, j19, j21, 0, 0, (M.1 114), (M.1 115), (M.1 116)))), (A 22, xc22 Z A (ap_R_sense M (j7, j9, j11, j13, j15, j19, j21, 0, 0, (M.1 114), (M.1 115), (M.1 116))))]) [0, 1, 2] (by decide) rfl
                              exact W.vret hx hb hr (fun t ht hW => ⟨⟨(j7, j9, j11, j13, j15, j19, j21, 0, 0, (M.1 114), (M.1 115), (M.1 116)), rfl, (by rw [F_R_sense, ← hj1, F_R_sense_k2, ← hj3, F_R_sense_k4, ← hj5, F_R_sense_k6, ← hj7, F_R_sense_k8, ← hj9, F_R_sense_k10, ← hj11, F_R_sense_k12, ← hj13, F_R_sense_k14, ← hj15, F_R_sense_k16, ← hj17, F_R_sense_k18, ← hj19, F_R_sense_k20, ← hj21, F_R_sense_k24, if_pos h23, if_neg h24, if_neg h30]), xE_at hP9 hK hD9 ht hW⟩, hS.F ht⟩) hS.2.2 d_R_sense_414
                            · refine lv_aload_n hx hb d_R_sense_378 rfl (lv_at hl 3 rfl) ?_
                              refine lv_aload_n hx hb d_R_sense_379 rfl (lv_at hl 3 rfl) ?_
                              refine va_get (D := (dC, dI)) (ci := 10) (v := .int (M.1 101)) (C := "CentrifugeUnitModel") (T := xF10) (N := 45) hx hb htt xin10 hown hK hP 0 rfl rfl 6 (by decide) (htt _ tw_785) (fun _ h9 => h9) rfl d_R_sense_380 ?_
                              refine xj_p 7 411 (fun q9 : Int32 => [(5, .long j17), (3, .long j3), (1, .long j1), (0, .ref (A 20))]) (fun q9 : Int32 => [.int q9, .ref (A 20)]) (fun q9 : Int32 => q9 = F_R_sense_j28 M j1 j3 j5 j7 j9 j11 j13 j15 j17 j19 j21) (fun hJ32 => ?_) (fun ls j31 hl hj31 => ?_)
                              · refine lv_if_lt (tgt := 410) hx hb d_R_sense_383 rfl (fun h34 => ?_) (fun h34 => ?_)
                                · refine lv_iconst (v := (-1)) hx hb d_R_sense_410 (by decide) ?_
                                  exact hJ32 _ (-1) (lv_sub hl [0, 1, 2, 3] rfl) (by rw [F_R_sense_j28, if_pos h34])
                                · refine lv_aload_n hx hb d_R_sense_386 rfl (lv_at hl 3 rfl) ?_
                                  refine va_get (D := (dC, dI)) (ci := 10) (v := .ref (A 21)) (C := "CentrifugeUnitModel") (T := xF10) (N := 45) hx hb htt xin10 hown hK hP 0 rfl rfl 1 (by decide) (htt _ tw_780) (fun _ h9 => h9) rfl d_R_sense_387 ?_
                                  refine lv_aload_n hx hb d_R_sense_390 rfl (lv_at hl 3 rfl) ?_
                                  refine va_get (D := (dC, dI)) (ci := 10) (v := .int (M.1 101)) (C := "CentrifugeUnitModel") (T := xF10) (N := 45) hx hb htt xin10 hown hK hP 0 rfl rfl 6 (by decide) (htt _ tw_785) (fun _ h9 => h9) rfl d_R_sense_391 ?_
                                  refine va_zald (D := (dC, dI)) hx hb hK hP 1 2 rfl rfl (xlt4 h34 hin) d_R_sense_394 ?_
                                  refine lv_if_eq (tgt := 410) hx hb d_R_sense_395 rfl (fun h35 => ?_) (fun h35 => ?_)
                                  · refine lv_iconst (v := (-1)) hx hb d_R_sense_410 (by decide) ?_
                                    exact hJ32 _ (-1) (lv_sub hl [0, 1, 2, 3] rfl) (by rw [F_R_sense_j28, if_neg h34, if_pos h35])
                                  · refine lv_aload_n hx hb d_R_sense_398 rfl (lv_at hl 3 rfl) ?_
                                    refine va_get (D := (dC, dI)) (ci := 10) (v := .ref (A 22)) (C := "CentrifugeUnitModel") (T := xF10) (N := 45) hx hb htt xin10 hown hK hP 0 rfl rfl 2 (by decide) (htt _ tw_781) (fun _ h9 => h9) rfl d_R_sense_399 ?_
                                    refine lv_aload_n hx hb d_R_sense_402 rfl (lv_at hl 3 rfl) ?_
                                    refine va_get (D := (dC, dI)) (ci := 10) (v := .int (M.1 101)) (C := "CentrifugeUnitModel") (T := xF10) (N := 45) hx hb htt xin10 hown hK hP 0 rfl rfl 6 (by decide) (htt _ tw_785) (fun _ h9 => h9) rfl d_R_sense_403 ?_
                                    refine va_iald (D := (dC, dI)) hx hb hK hP 2 0 rfl rfl (xlt4 h34 hin) d_R_sense_406 ?_
                                    refine lv_goto (tgt := 411) hx hb d_R_sense_407 rfl ?_
                                    exact hJ32 _ ((M.2.2.1 22) ((M.1 101)).toNatClampNeg) (lv_sub hl [0, 1, 2, 3] rfl) (by rw [F_R_sense_j28, if_neg h34, if_neg h35])
                              · have hPc := hP.sub (ws' := [(A 20, xc20 Z A ((va_up (va_up (va_up (va_up M.1 118 j13) 119 j15) 120 j19) 117 0), (va_up (va_up (va_up (va_up (va_up M.2.1 101 j7) 102 j9) 103 j11) 107 j21) 106 0), M.2.2)), (A 21, xc21 Z A ((va_up (va_up (va_up (va_up M.1 118 j13) 119 j15) 120 j19) 117 0), (va_up (va_up (va_up (va_up (va_up M.2.1 101 j7) 102 j9) 103 j11) 107 j21) 106 0), M.2.2)), (A 22, xc22 Z A ((va_up (va_up (va_up (va_up M.1 118 j13) 119 j15) 120 j19) 117 0), (va_up (va_up (va_up (va_up (va_up M.2.1 101 j7) 102 j9) 103 j11) 107 j21) 106 0), M.2.2))]) [0, 1, 2] rfl
                                have hDc := hD.sub (ws' := [(A 20, xc20 Z A ((va_up (va_up (va_up (va_up M.1 118 j13) 119 j15) 120 j19) 117 0), (va_up (va_up (va_up (va_up (va_up M.2.1 101 j7) 102 j9) 103 j11) 107 j21) 106 0), M.2.2)), (A 21, xc21 Z A ((va_up (va_up (va_up (va_up M.1 118 j13) 119 j15) 120 j19) 117 0), (va_up (va_up (va_up (va_up (va_up M.2.1 101 j7) 102 j9) 103 j11) 107 j21) 106 0), M.2.2)), (A 22, xc22 Z A ((va_up (va_up (va_up (va_up M.1 118 j13) 119 j15) 120 j19) 117 0), (va_up (va_up (va_up (va_up (va_up M.2.1 101 j7) 102 j9) 103 j11) 107 j21) 106 0), M.2.2))]) [0, 1, 2] (by decide) rfl
                                refine xk_v (wc := [(A 20, xc20 Z A ((va_up (va_up (va_up (va_up M.1 118 j13) 119 j15) 120 j19) 117 0), (va_up (va_up (va_up (va_up (va_up M.2.1 101 j7) 102 j9) 103 j11) 107 j21) 106 0), M.2.2)), (A 21, xc21 Z A ((va_up (va_up (va_up (va_up M.1 118 j13) 119 j15) 120 j19) 117 0), (va_up (va_up (va_up (va_up (va_up M.2.1 101 j7) 102 j9) 103 j11) 107 j21) 106 0), M.2.2)), (A 22, xc22 Z A ((va_up (va_up (va_up (va_up M.1 118 j13) 119 j15) 120 j19) 117 0), (va_up (va_up (va_up (va_up (va_up M.2.1 101 j7) 102 j9) 103 j11) 107 j21) 106 0), M.2.2))]) (wr := []) (va_runV (As := [.int j31]) (rest := []) ⟨hx, hb, hml, hown, hts⟩ (c_R_read l dC dI Z A _ ((va_up (va_up (va_up (va_up M.1 118 j13) 119 j15) 120 j19) 117 0), (va_up (va_up (va_up (va_up (va_up M.2.1 101 j7) 102 j9) 103 j11) 107 j21) 106 0), M.2.2) j31) (cwV 1 hts (xw_V _ tw_1017 tw_1019 tp_17 tw_12 tw_1020) rfl rfl rfl (by decide +kernel) ⟨Nat.le_of_ble_eq_true rfl, Nat.le_of_ble_eq_true rfl⟩) ⟨xB_blind, va_recv (q0 := 0) (ci := 10) hK hP rfl rfl, fun U hU hW => ⟨rfl, xB_at hPc hK hDc hq U hU hW⟩⟩ rfl rfl hl.1 rfl (lv_room (Nat.le_of_ble_eq_true rfl)) d_R_sense_411 ⟨Nat.le_of_ble_eq_true rfl, Nat.le_of_ble_eq_true rfl⟩) hP hD hS hA [0, 1, 2] [] rfl rfl (by decide) (by decide) (fun u33 H locs hu33 hP hD hS => ?_)
                                have hP : va_P (dC, dI) xcl [(A 20, .inr (10, [.int (M.1 100), .ref (A 21), .ref (A 22), .ref (A 23), .ref (A 24), .ref (A 25), .int (M.1 101), .ref (A 26), .ref (A 27), .ref (A 28), .int (M.1 102), .long (M.2.1 100), .int (M.1 103), .int (M.1 104), .int (M.1 105), .int (M.1 106), .int (M.1 107), .int (M.1 108), .long j7, .long j9, .long j11, .int (M.1 109), .int (M.1 110), .int (M.1 111), .int (M.1 112), .int (M.1 113), .long (M.2.1 104), .long (M.2.1 105), .long 0, .int (u33.2.1), .int (u33.2.2.1), .int (u33.2.2.2), .int (u33.1), .int j13, .int j15, .int j19, .int (M.1 121), .int (M.1 122), .int (M.1 123), .int (M.1 124), .long j21, .int (M.1 125), .ref (A 29), .ref (A 30), .ref (A 31)])), (A 21, .inl (Z 2, 4, .inl (M.2.2.1 21))), (A 22, .inl (Z 0, 4, .inl (M.2.2.1 22)))] H := hP
                                have hD : va_D AA [(A 20, .inr (10, [.int (M.1 100), .ref (A 21), .ref (A 22), .ref (A 23), .ref (A 24), .ref (A 25), .int (M.1 101), .ref (A 26), .ref (A 27), .ref (A 28), .int (M.1 102), .long (M.2.1 100), .int (M.1 103), .int (M.1 104), .int (M.1 105), .int (M.1 106), .int (M.1 107), .int (M.1 108), .long j7, .long j9, .long j11, .int (M.1 109), .int (M.1 110), .int (M.1 111), .int (M.1 112), .int (M.1 113), .long (M.2.1 104), .long (M.2.1 105), .long 0, .int (u33.2.1), .int (u33.2.2.1), .int (u33.2.2.2), .int (u33.1), .int j13, .int j15, .int j19, .int (M.1 121), .int (M.1 122), .int (M.1 123), .int (M.1 124), .long j21, .int (M.1 125), .ref (A 29), .ref (A 30), .ref (A 31)])), (A 21, .inl (Z 2, 4, .inl (M.2.2.1 21))), (A 22, .inl (Z 0, 4, .inl (M.2.2.1 22)))] := hD
                                have hP9 := hP.sub (ws' := [(A 20, xc20 Z A (ap_R_sense M (j7, j9, j11, j13, j15, j19, j21, 0, (u33.1), (u33.2.1), (u33.2.2.1), (u33.2.2.2)))), (A 21, xc21 Z A (ap_R_sense M (j7, j9, j11, j13, j15, j19, j21, 0, (u33.1), (u33.2.1), (u33.2.2.1), (u33.2.2.2)))), (A 22, xc22 Z A (ap_R_sense M (j7, j9, j11, j13, j15, j19, j21, 0, (u33.1), (u33.2.1), (u33.2.2.1), (u33.2.2.2))))]) [0, 1, 2] rfl
                                have hD9 := hD.sub (ws' := [(A 20, xc20 Z A (ap_R_sense M (j7, j9, j11, j13, j15, j19, j21, 0, (u33.1), (u33.2.1), (u33.2.2.1), (u33.2.2.2)))), (A 21, xc21 Z A (ap_R_sense M (j7, j9, j11, j13, j15, j19, j21, 0, (u33.1), (u33.2.1), (u33.2.2.1), (u33.2.2.2)))), (A 22, xc22 Z A (ap_R_sense M (j7, j9, j11, j13, j15, j19, j21, 0, (u33.1), (u33.2.1), (u33.2.2.1), (u33.2.2.2))))]) [0, 1, 2] (by decide) rfl
                                exact W.vret hx hb hr (fun t ht hW => ⟨⟨(j7, j9, j11, j13, j15, j19, j21, 0, (u33.1), (u33.2.1), (u33.2.2.1), (u33.2.2.2)), rfl, (by rw [F_R_sense, ← hj1, F_R_sense_k2, ← hj3, F_R_sense_k4, ← hj5, F_R_sense_k6, ← hj7, F_R_sense_k8, ← hj9, F_R_sense_k10, ← hj11, F_R_sense_k12, ← hj13, F_R_sense_k14, ← hj15, F_R_sense_k16, ← hj17, F_R_sense_k18, ← hj19, F_R_sense_k20, ← hj21, F_R_sense_k24, if_pos h23, if_neg h24, if_pos h30, ← hj31, F_R_sense_k29, ← hu33, F_R_sense_k30]), xE_at hP9 hK hD9 ht hW⟩, hS.F ht⟩) hS.2.2 d_R_sense_414
                        · have hP9 := hP.sub (ws' := [(A 20, xc20 Z A (ap_R_sense M (j7, j9, j11, j13, j15, j19, j21, ((M.2.1 106) + j11), 0, (M.1 114), (M.1 115), (M.1 116)))), (A 21, xc21 Z A (ap_R_sense M (j7, j9, j11, j13, j15, j19, j21, ((M.2.1 106) + j11), 0, (M.1 114), (M.1 115), (M.1 116)))), (A 22, xc22 Z A (ap_R_sense M (j7, j9, j11, j13, j15, j19, j21, ((M.2.1 106) + j11), 0, (M.1 114), (M.1 115), (M.1 116))))]) [0, 1, 2] rfl
                          have hD9 := hD.sub (ws' := [(A 20, xc20 Z A (ap_R_sense M (j7, j9, j11, j13, j15, j19, j21, ((M.2.1 106) + j11), 0, (M.1 114), (M.1 115), (M.1 116)))), (A 21, xc21 Z A (ap_R_sense M (j7, j9, j11, j13, j15, j19, j21, ((M.2.1 106) + j11), 0, (M.1 114), (M.1 115), (M.1 116)))), (A 22, xc22 Z A (ap_R_sense M (j7, j9, j11, j13, j15, j19, j21, ((M.2.1 106) + j11), 0, (M.1 114), (M.1 115), (M.1 116))))]) [0, 1, 2] (by decide) rfl
                          exact W.vret hx hb hr (fun t ht hW => ⟨⟨(j7, j9, j11, j13, j15, j19, j21, ((M.2.1 106) + j11), 0, (M.1 114), (M.1 115), (M.1 116)), rfl, (by rw [F_R_sense, ← hj1, F_R_sense_k2, ← hj3, F_R_sense_k4, ← hj5, F_R_sense_k6, ← hj7, F_R_sense_k8, ← hj9, F_R_sense_k10, ← hj11, F_R_sense_k12, ← hj13, F_R_sense_k14, ← hj15, F_R_sense_k16, ← hj17, F_R_sense_k18, ← hj19, F_R_sense_k20, ← hj21, F_R_sense_k24, if_neg h23]), xE_at hP9 hK hD9 ht hW⟩, hS.F ht⟩) hS.2.2 d_R_sense_356
theorem xwst {M : XM} (h : (F_R_watch M).1 = 1) : (M.1 110) = 1 := by
  simp only [F_R_watch, F_R_watch_k2, F_R_watch_k3, F_R_watch_k5] at h
  split at h
  · exact h
  · exact absurd h (by show ¬ (3 : Int32) = 1; decide)
