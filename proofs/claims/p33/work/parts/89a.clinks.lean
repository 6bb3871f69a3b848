theorem lk_136 : Cond.methodLink RX11 1 objectInit ∈ lwG := lw_k 136 (by decide +kernel) (by decide +kernel)
theorem lk_137 : Cond.instanceMethod objectInit ∈ lwG := lw_k 137 (by decide +kernel) (by decide +kernel)
theorem lk_138 : Cond.code objectInit ⟨#[0xb1]⟩ 1 none ∈ lwG := lw_k 138 (by decide +kernel) (by decide +kernel)
theorem lk_139 : Cond.classLink RX11 7 RX10 ∈ lwG := lw_k 139 (by decide +kernel) (by decide +kernel)
theorem lk_140 : Cond.instantiable RX10 6 ∈ lwG := lw_k 140 (by decide +kernel) (by decide +kernel)
theorem lk_142 : Cond.instanceMethod yX10_init ∈ lwG := lw_k 142 (by decide +kernel) (by decide +kernel)
theorem lk_143 : Cond.code yX10_init cX10_init 1 none ∈ lwG := lw_k 143 (by decide +kernel) (by decide +kernel)
theorem lk_144 : Cond.methodLink RX10 3 objectInit ∈ lwG := lw_k 144 (by decide +kernel) (by decide +kernel)
theorem lk_168 : Cond.arrayClass .byte ∈ lwG := lw_k 168 (by decide +kernel) (by decide +kernel)
theorem lk_169 : Cond.classLink RX11 16 RX2 ∈ lwG := lw_k 169 (by decide +kernel) (by decide +kernel)
theorem lk_170 : Cond.instantiable RX2 0 ∈ lwG := lw_k 170 (by decide +kernel) (by decide +kernel)
theorem lk_172 : Cond.instanceMethod yX2_init ∈ lwG := lw_k 172 (by decide +kernel) (by decide +kernel)
theorem lk_173 : Cond.code yX2_init cX2_init 1 none ∈ lwG := lw_k 173 (by decide +kernel) (by decide +kernel)
theorem lk_174 : Cond.methodLink RX2 3 objectInit ∈ lwG := lw_k 174 (by decide +kernel) (by decide +kernel)
theorem lk_176 : Cond.classLink RX11 23 RX9 ∈ lwG := lw_k 176 (by decide +kernel) (by decide +kernel)
theorem lk_177 : Cond.instantiable RX9 5 ∈ lwG := lw_k 177 (by decide +kernel) (by decide +kernel)
theorem lk_179 : Cond.instanceMethod yX9_init ∈ lwG := lw_k 179 (by decide +kernel) (by decide +kernel)
theorem lk_180 : Cond.code yX9_init cX9_init 1 none ∈ lwG := lw_k 180 (by decide +kernel) (by decide +kernel)
theorem lk_181 : Cond.methodLink RX9 3 objectInit ∈ lwG := lw_k 181 (by decide +kernel) (by decide +kernel)
theorem lk_198 : Cond.arrayClass .int ∈ lwG := lw_k 198 (by decide +kernel) (by decide +kernel)
theorem lk_199 : Cond.classLink RX11 30 RX8 ∈ lwG := lw_k 199 (by decide +kernel) (by decide +kernel)
theorem lk_201 : Cond.classLink RX11 36 RX3 ∈ lwG := lw_k 201 (by decide +kernel) (by decide +kernel)
theorem lk_202 : Cond.instantiable RX3 9 ∈ lwG := lw_k 202 (by decide +kernel) (by decide +kernel)
theorem lk_204 : Cond.instanceMethod yX3_init ∈ lwG := lw_k 204 (by decide +kernel) (by decide +kernel)
theorem lk_205 : Cond.code yX3_init cX3_init 1 none ∈ lwG := lw_k 205 (by decide +kernel) (by decide +kernel)
theorem lk_206 : Cond.methodLink RX3 3 objectInit ∈ lwG := lw_k 206 (by decide +kernel) (by decide +kernel)
theorem lk_207 : Cond.classLink RX3 9 RX1 ∈ lwG := lw_k 207 (by decide +kernel) (by decide +kernel)
theorem lk_208 : Cond.instantiable RX1 10 ∈ lwG := lw_k 208 (by decide +kernel) (by decide +kernel)
theorem lk_210 : Cond.instanceMethod yX1_init ∈ lwG := lw_k 210 (by decide +kernel) (by decide +kernel)
theorem lk_211 : Cond.code yX1_init cX1_init 1 none ∈ lwG := lw_k 211 (by decide +kernel) (by decide +kernel)
theorem lk_212 : Cond.methodLink RX1 3 objectInit ∈ lwG := lw_k 212 (by decide +kernel) (by decide +kernel)
theorem lk_271 : Cond.classLink RX3 18 RX5 ∈ lwG := lw_k 271 (by decide +kernel) (by decide +kernel)
theorem lk_272 : Cond.instantiable RX5 5 ∈ lwG := lw_k 272 (by decide +kernel) (by decide +kernel)
theorem lk_274 : Cond.instanceMethod yX5_init ∈ lwG := lw_k 274 (by decide +kernel) (by decide +kernel)
theorem lk_275 : Cond.code yX5_init cX5_init 1 none ∈ lwG := lw_k 275 (by decide +kernel) (by decide +kernel)
theorem lk_276 : Cond.methodLink RX5 3 objectInit ∈ lwG := lw_k 276 (by decide +kernel) (by decide +kernel)
theorem lk_349 : Cond.classLink RX11 47 RX7 ∈ lwG := lw_k 349 (by decide +kernel) (by decide +kernel)
theorem lk_350 : Cond.instantiable RX7 3 ∈ lwG := lw_k 350 (by decide +kernel) (by decide +kernel)
theorem lk_351 : Cond.methodLink RX11 49 yX7_init ∈ lwG := lw_k 351 (by decide +kernel) (by decide +kernel)
theorem lk_352 : Cond.instanceMethod yX7_init ∈ lwG := lw_k 352 (by decide +kernel) (by decide +kernel)
theorem lk_353 : Cond.code yX7_init cX7_init 2 none ∈ lwG := lw_k 353 (by decide +kernel) (by decide +kernel)
theorem lk_354 : Cond.methodLink RX7 3 objectInit ∈ lwG := lw_k 354 (by decide +kernel) (by decide +kernel)
theorem lk_355 : Cond.classLink RX7 9 RX5 ∈ lwG := lw_k 355 (by decide +kernel) (by decide +kernel)
theorem lk_369 : Cond.classLink RX11 54 RX4 ∈ lwG := lw_k 369 (by decide +kernel) (by decide +kernel)
theorem lk_370 : Cond.instantiable RX4 2 ∈ lwG := lw_k 370 (by decide +kernel) (by decide +kernel)
theorem lk_372 : Cond.instanceMethod yX4_init ∈ lwG := lw_k 372 (by decide +kernel) (by decide +kernel)
theorem lk_373 : Cond.code yX4_init cX4_init 1 none ∈ lwG := lw_k 373 (by decide +kernel) (by decide +kernel)
theorem lk_374 : Cond.methodLink RX4 3 objectInit ∈ lwG := lw_k 374 (by decide +kernel) (by decide +kernel)
theorem lk_382 : Cond.arrayClass .long ∈ lwG := lw_k 382 (by decide +kernel) (by decide +kernel)
theorem lk_383 : Cond.classLink RX11 61 RX6 ∈ lwG := lw_k 383 (by decide +kernel) (by decide +kernel)
theorem lk_384 : Cond.instantiable RX6 6 ∈ lwG := lw_k 384 (by decide +kernel) (by decide +kernel)
theorem lk_386 : Cond.instanceMethod yX6_init ∈ lwG := lw_k 386 (by decide +kernel) (by decide +kernel)
theorem lk_387 : Cond.code yX6_init cX6_init 1 none ∈ lwG := lw_k 387 (by decide +kernel) (by decide +kernel)
theorem lk_388 : Cond.methodLink RX6 3 objectInit ∈ lwG := lw_k 388 (by decide +kernel) (by decide +kernel)
theorem lk_389 : Cond.classLink RX6 18 "[[I" ∈ lwG := lw_k 389 (by decide +kernel) (by decide +kernel)
theorem lk_410 : Cond.classLink RX11 68 RX0 ∈ lwG := lw_k 410 (by decide +kernel) (by decide +kernel)
theorem lk_411 : Cond.instantiable RX0 6 ∈ lwG := lw_k 411 (by decide +kernel) (by decide +kernel)
theorem lk_413 : Cond.instanceMethod yX0_init ∈ lwG := lw_k 413 (by decide +kernel) (by decide +kernel)
theorem lk_414 : Cond.code yX0_init cX0_init 1 none ∈ lwG := lw_k 414 (by decide +kernel) (by decide +kernel)
theorem lk_415 : Cond.methodLink RX0 3 objectInit ∈ lwG := lw_k 415 (by decide +kernel) (by decide +kernel)
theorem lk_416 : Cond.classLink RX0 9 RX5 ∈ lwG := lw_k 416 (by decide +kernel) (by decide +kernel)
theorem lk_439 : Cond.classLink RX11 75 RX5 ∈ lwG := lw_k 439 (by decide +kernel) (by decide +kernel)
theorem lk_441 : Cond.classLink RX11 86 RX1 ∈ lwG := lw_k 441 (by decide +kernel) (by decide +kernel)
theorem lk_1071 : Cond.methodLink RX12 1 objectInit ∈ lwG := lw_k 1071 (by decide +kernel) (by decide +kernel)
theorem lk_1199 : Cond.arrayClass .boolean ∈ lwG := lw_k 1199 (by decide +kernel) (by decide +kernel)
theorem dX0_init_0 : decode cX0_init 0 = .ok (.aload_n 0, 1) := by decide +kernel
theorem dX0_init_1 : decode cX0_init 1 = .ok (.invokespecial 3, 3) := by decide +kernel
theorem dX0_init_4 : decode cX0_init 4 = .ok (.aload_n 0, 1) := by decide +kernel
theorem dX0_init_5 : decode cX0_init 5 = .ok (.new 9, 3) := by decide +kernel
theorem dX0_init_8 : decode cX0_init 8 = .ok (.dup, 1) := by decide +kernel
theorem dX0_init_9 : decode cX0_init 9 = .ok (.invokespecial 11, 3) := by decide +kernel
theorem dX0_init_12 : decode cX0_init 12 = .ok (.putfield 12, 3) := by decide +kernel
theorem dX0_init_15 : decode cX0_init 15 = .ok (.return_, 1) := by decide +kernel
theorem dX10_init_0 : decode cX10_init 0 = .ok (.aload_n 0, 1) := by decide +kernel
theorem dX10_init_1 : decode cX10_init 1 = .ok (.invokespecial 3, 3) := by decide +kernel
theorem dX10_init_4 : decode cX10_init 4 = .ok (.aload_n 0, 1) := by decide +kernel
theorem dX10_init_5 : decode cX10_init 5 = .ok (.sipush 400, 3) := by decide +kernel
theorem dX10_init_8 : decode cX10_init 8 = .ok (.newarray .byte, 2) := by decide +kernel
theorem dX10_init_10 : decode cX10_init 10 = .ok (.putfield 11, 3) := by decide +kernel
theorem dX10_init_13 : decode cX10_init 13 = .ok (.return_, 1) := by decide +kernel
theorem dX11_init_0 : decode cX11_init 0 = .ok (.aload_n 0, 1) := by decide +kernel
theorem dX11_init_1 : decode cX11_init 1 = .ok (.invokespecial 1, 3) := by decide +kernel
theorem dX11_init_4 : decode cX11_init 4 = .ok (.aload_n 0, 1) := by decide +kernel
theorem dX11_init_5 : decode cX11_init 5 = .ok (.new 7, 3) := by decide +kernel
theorem dX11_init_8 : decode cX11_init 8 = .ok (.dup, 1) := by decide +kernel
theorem dX11_init_9 : decode cX11_init 9 = .ok (.invokespecial 9, 3) := by decide +kernel
theorem dX11_init_12 : decode cX11_init 12 = .ok (.putfield 10, 3) := by decide +kernel
theorem dX11_init_15 : decode cX11_init 15 = .ok (.aload_n 0, 1) := by decide +kernel
theorem dX11_init_16 : decode cX11_init 16 = .ok (.new 16, 3) := by decide +kernel
theorem dX11_init_19 : decode cX11_init 19 = .ok (.dup, 1) := by decide +kernel
theorem dX11_init_20 : decode cX11_init 20 = .ok (.invokespecial 18, 3) := by decide +kernel
theorem dX11_init_23 : decode cX11_init 23 = .ok (.putfield 19, 3) := by decide +kernel
theorem dX11_init_26 : decode cX11_init 26 = .ok (.aload_n 0, 1) := by decide +kernel
theorem dX11_init_27 : decode cX11_init 27 = .ok (.new 23, 3) := by decide +kernel
theorem dX11_init_30 : decode cX11_init 30 = .ok (.dup, 1) := by decide +kernel
theorem dX11_init_31 : decode cX11_init 31 = .ok (.invokespecial 25, 3) := by decide +kernel
theorem dX11_init_34 : decode cX11_init 34 = .ok (.putfield 26, 3) := by decide +kernel
theorem dX11_init_37 : decode cX11_init 37 = .ok (.aload_n 0, 1) := by decide +kernel
theorem dX11_init_38 : decode cX11_init 38 = .ok (.bipush 6, 2) := by decide +kernel
theorem dX11_init_40 : decode cX11_init 40 = .ok (.anewarray 30, 3) := by decide +kernel
theorem dX11_init_43 : decode cX11_init 43 = .ok (.putfield 32, 3) := by decide +kernel
theorem dX11_init_46 : decode cX11_init 46 = .ok (.aload_n 0, 1) := by decide +kernel
theorem dX11_init_47 : decode cX11_init 47 = .ok (.new 36, 3) := by decide +kernel
theorem dX11_init_50 : decode cX11_init 50 = .ok (.dup, 1) := by decide +kernel
theorem dX11_init_51 : decode cX11_init 51 = .ok (.invokespecial 38, 3) := by decide +kernel
theorem dX11_init_54 : decode cX11_init 54 = .ok (.putfield 39, 3) := by decide +kernel
theorem dX11_init_57 : decode cX11_init 57 = .ok (.aload_n 0, 1) := by decide +kernel
theorem dX11_init_58 : decode cX11_init 58 = .ok (.iconst 4, 1) := by decide +kernel
theorem dX11_init_59 : decode cX11_init 59 = .ok (.anewarray 36, 3) := by decide +kernel
theorem dX11_init_62 : decode cX11_init 62 = .ok (.putfield 43, 3) := by decide +kernel
theorem dX11_init_65 : decode cX11_init 65 = .ok (.aload_n 0, 1) := by decide +kernel
theorem dX11_init_66 : decode cX11_init 66 = .ok (.new 47, 3) := by decide +kernel
theorem dX11_init_69 : decode cX11_init 69 = .ok (.dup, 1) := by decide +kernel
theorem dX11_init_70 : decode cX11_init 70 = .ok (.invokespecial 49, 3) := by decide +kernel
theorem dX11_init_73 : decode cX11_init 73 = .ok (.putfield 50, 3) := by decide +kernel
theorem dX11_init_76 : decode cX11_init 76 = .ok (.aload_n 0, 1) := by decide +kernel
theorem dX11_init_77 : decode cX11_init 77 = .ok (.new 54, 3) := by decide +kernel
theorem dX11_init_80 : decode cX11_init 80 = .ok (.dup, 1) := by decide +kernel
theorem dX11_init_81 : decode cX11_init 81 = .ok (.invokespecial 56, 3) := by decide +kernel
theorem dX11_init_84 : decode cX11_init 84 = .ok (.putfield 57, 3) := by decide +kernel
theorem dX11_init_87 : decode cX11_init 87 = .ok (.aload_n 0, 1) := by decide +kernel
theorem dX11_init_88 : decode cX11_init 88 = .ok (.new 61, 3) := by decide +kernel
theorem dX11_init_91 : decode cX11_init 91 = .ok (.dup, 1) := by decide +kernel
theorem dX11_init_92 : decode cX11_init 92 = .ok (.invokespecial 63, 3) := by decide +kernel
theorem dX11_init_95 : decode cX11_init 95 = .ok (.putfield 64, 3) := by decide +kernel
theorem dX11_init_98 : decode cX11_init 98 = .ok (.aload_n 0, 1) := by decide +kernel
theorem dX11_init_99 : decode cX11_init 99 = .ok (.new 68, 3) := by decide +kernel
theorem dX11_init_102 : decode cX11_init 102 = .ok (.dup, 1) := by decide +kernel
theorem dX11_init_103 : decode cX11_init 103 = .ok (.invokespecial 70, 3) := by decide +kernel
theorem dX11_init_106 : decode cX11_init 106 = .ok (.putfield 71, 3) := by decide +kernel
theorem dX11_init_109 : decode cX11_init 109 = .ok (.aload_n 0, 1) := by decide +kernel
theorem dX11_init_110 : decode cX11_init 110 = .ok (.new 75, 3) := by decide +kernel
theorem dX11_init_113 : decode cX11_init 113 = .ok (.dup, 1) := by decide +kernel
theorem dX11_init_114 : decode cX11_init 114 = .ok (.invokespecial 77, 3) := by decide +kernel
theorem dX11_init_117 : decode cX11_init 117 = .ok (.putfield 78, 3) := by decide +kernel
theorem dX11_init_120 : decode cX11_init 120 = .ok (.aload_n 0, 1) := by decide +kernel
theorem dX11_init_121 : decode cX11_init 121 = .ok (.bipush 49, 2) := by decide +kernel
theorem dX11_init_123 : decode cX11_init 123 = .ok (.newarray .int, 2) := by decide +kernel
theorem dX11_init_125 : decode cX11_init 125 = .ok (.putfield 82, 3) := by decide +kernel
theorem dX11_init_128 : decode cX11_init 128 = .ok (.aload_n 0, 1) := by decide +kernel
theorem dX11_init_129 : decode cX11_init 129 = .ok (.new 86, 3) := by decide +kernel
theorem dX11_init_132 : decode cX11_init 132 = .ok (.dup, 1) := by decide +kernel
theorem dX11_init_133 : decode cX11_init 133 = .ok (.invokespecial 88, 3) := by decide +kernel
theorem dX11_init_136 : decode cX11_init 136 = .ok (.putfield 89, 3) := by decide +kernel
theorem dX11_init_139 : decode cX11_init 139 = .ok (.iconst 0, 1) := by decide +kernel
theorem dX11_init_140 : decode cX11_init 140 = .ok (.istore_n 1, 1) := by decide +kernel
theorem dX11_init_141 : decode cX11_init 141 = .ok (.iload_n 1, 1) := by decide +kernel
theorem dX11_init_142 : decode cX11_init 142 = .ok (.aload_n 0, 1) := by decide +kernel
theorem dX11_init_143 : decode cX11_init 143 = .ok (.getfield 43, 3) := by decide +kernel
theorem dX11_init_146 : decode cX11_init 146 = .ok (.arraylength, 1) := by decide +kernel
theorem dX11_init_147 : decode cX11_init 147 = .ok (.if_icmp .ge 22, 3) := by decide +kernel
theorem dX11_init_150 : decode cX11_init 150 = .ok (.aload_n 0, 1) := by decide +kernel
theorem dX11_init_151 : decode cX11_init 151 = .ok (.getfield 43, 3) := by decide +kernel
theorem dX11_init_154 : decode cX11_init 154 = .ok (.iload_n 1, 1) := by decide +kernel
theorem dX11_init_155 : decode cX11_init 155 = .ok (.new 36, 3) := by decide +kernel
theorem dX11_init_158 : decode cX11_init 158 = .ok (.dup, 1) := by decide +kernel
theorem dX11_init_159 : decode cX11_init 159 = .ok (.invokespecial 38, 3) := by decide +kernel
theorem dX11_init_162 : decode cX11_init 162 = .ok (.aastore, 1) := by decide +kernel
theorem dX11_init_163 : decode cX11_init 163 = .ok (.iinc 1 1, 3) := by decide +kernel
theorem dX11_init_166 : decode cX11_init 166 = .ok (.goto (-25), 3) := by decide +kernel
theorem dX11_init_169 : decode cX11_init 169 = .ok (.return_, 1) := by decide +kernel
theorem dX12_init_0 : decode cX12_init 0 = .ok (.aload_n 0, 1) := by decide +kernel
theorem dX12_init_1 : decode cX12_init 1 = .ok (.invokespecial 1, 3) := by decide +kernel
theorem dX12_init_4 : decode cX12_init 4 = .ok (.aload_n 0, 1) := by decide +kernel
theorem dX12_init_5 : decode cX12_init 5 = .ok (.sipush 400, 3) := by decide +kernel
theorem dX12_init_8 : decode cX12_init 8 = .ok (.newarray .byte, 2) := by decide +kernel
theorem dX12_init_10 : decode cX12_init 10 = .ok (.putfield 7, 3) := by decide +kernel
theorem dX12_init_13 : decode cX12_init 13 = .ok (.aload_n 0, 1) := by decide +kernel
theorem dX12_init_14 : decode cX12_init 14 = .ok (.sipush 2400, 3) := by decide +kernel
theorem dX12_init_17 : decode cX12_init 17 = .ok (.newarray .int, 2) := by decide +kernel
theorem dX12_init_19 : decode cX12_init 19 = .ok (.putfield 13, 3) := by decide +kernel
theorem dX12_init_22 : decode cX12_init 22 = .ok (.aload_n 0, 1) := by decide +kernel
theorem dX12_init_23 : decode cX12_init 23 = .ok (.bipush 7, 2) := by decide +kernel
theorem dX12_init_25 : decode cX12_init 25 = .ok (.newarray .int, 2) := by decide +kernel
theorem dX12_init_27 : decode cX12_init 27 = .ok (.putfield 17, 3) := by decide +kernel
theorem dX12_init_30 : decode cX12_init 30 = .ok (.aload_n 0, 1) := by decide +kernel
theorem dX12_init_31 : decode cX12_init 31 = .ok (.sipush 288, 3) := by decide +kernel
theorem dX12_init_34 : decode cX12_init 34 = .ok (.newarray .int, 2) := by decide +kernel
theorem dX12_init_36 : decode cX12_init 36 = .ok (.putfield 20, 3) := by decide +kernel
theorem dX12_init_39 : decode cX12_init 39 = .ok (.aload_n 0, 1) := by decide +kernel
theorem dX12_init_40 : decode cX12_init 40 = .ok (.bipush 6, 2) := by decide +kernel
theorem dX12_init_42 : decode cX12_init 42 = .ok (.newarray .int, 2) := by decide +kernel
theorem dX12_init_44 : decode cX12_init 44 = .ok (.putfield 23, 3) := by decide +kernel
theorem dX12_init_47 : decode cX12_init 47 = .ok (.aload_n 0, 1) := by decide +kernel
theorem dX12_init_48 : decode cX12_init 48 = .ok (.bipush 77, 2) := by decide +kernel
theorem dX12_init_50 : decode cX12_init 50 = .ok (.newarray .int, 2) := by decide +kernel
theorem dX12_init_52 : decode cX12_init 52 = .ok (.putfield 26, 3) := by decide +kernel
theorem dX12_init_55 : decode cX12_init 55 = .ok (.aload_n 0, 1) := by decide +kernel
theorem dX12_init_56 : decode cX12_init 56 = .ok (.sipush 400, 3) := by decide +kernel
theorem dX12_init_59 : decode cX12_init 59 = .ok (.newarray .int, 2) := by decide +kernel
theorem dX12_init_61 : decode cX12_init 61 = .ok (.putfield 29, 3) := by decide +kernel
theorem dX12_init_64 : decode cX12_init 64 = .ok (.aload_n 0, 1) := by decide +kernel
theorem dX12_init_65 : decode cX12_init 65 = .ok (.bipush 64, 2) := by decide +kernel
theorem dX12_init_67 : decode cX12_init 67 = .ok (.newarray .long, 2) := by decide +kernel
theorem dX12_init_69 : decode cX12_init 69 = .ok (.putfield 32, 3) := by decide +kernel
theorem dX12_init_72 : decode cX12_init 72 = .ok (.aload_n 0, 1) := by decide +kernel
theorem dX12_init_73 : decode cX12_init 73 = .ok (.bipush 12, 2) := by decide +kernel
theorem dX12_init_75 : decode cX12_init 75 = .ok (.newarray .long, 2) := by decide +kernel
theorem dX12_init_77 : decode cX12_init 77 = .ok (.putfield 36, 3) := by decide +kernel
theorem dX12_init_80 : decode cX12_init 80 = .ok (.aload_n 0, 1) := by decide +kernel
theorem dX12_init_81 : decode cX12_init 81 = .ok (.bipush 108, 2) := by decide +kernel
theorem dX12_init_83 : decode cX12_init 83 = .ok (.newarray .int, 2) := by decide +kernel
theorem dX12_init_85 : decode cX12_init 85 = .ok (.putfield 39, 3) := by decide +kernel
theorem dX12_init_88 : decode cX12_init 88 = .ok (.aload_n 0, 1) := by decide +kernel
theorem dX12_init_89 : decode cX12_init 89 = .ok (.iconst (-1), 1) := by decide +kernel
theorem dX12_init_90 : decode cX12_init 90 = .ok (.putfield 42, 3) := by decide +kernel
theorem dX12_init_93 : decode cX12_init 93 = .ok (.aload_n 0, 1) := by decide +kernel
theorem dX12_init_94 : decode cX12_init 94 = .ok (.iconst (-1), 1) := by decide +kernel
theorem dX12_init_95 : decode cX12_init 95 = .ok (.putfield 46, 3) := by decide +kernel
theorem dX12_init_98 : decode cX12_init 98 = .ok (.aload_n 0, 1) := by decide +kernel
theorem dX12_init_99 : decode cX12_init 99 = .ok (.sipush 580, 3) := by decide +kernel
theorem dX12_init_102 : decode cX12_init 102 = .ok (.newarray .int, 2) := by decide +kernel
theorem dX12_init_104 : decode cX12_init 104 = .ok (.putfield 49, 3) := by decide +kernel
theorem dX12_init_107 : decode cX12_init 107 = .ok (.aload_n 0, 1) := by decide +kernel
theorem dX12_init_108 : decode cX12_init 108 = .ok (.bipush 29, 2) := by decide +kernel
theorem dX12_init_110 : decode cX12_init 110 = .ok (.newarray .int, 2) := by decide +kernel
theorem dX12_init_112 : decode cX12_init 112 = .ok (.putfield 52, 3) := by decide +kernel
theorem dX12_init_115 : decode cX12_init 115 = .ok (.aload_n 0, 1) := by decide +kernel
theorem dX12_init_116 : decode cX12_init 116 = .ok (.bipush 8, 2) := by decide +kernel
theorem dX12_init_118 : decode cX12_init 118 = .ok (.newarray .int, 2) := by decide +kernel
theorem dX12_init_120 : decode cX12_init 120 = .ok (.putfield 55, 3) := by decide +kernel
theorem dX12_init_123 : decode cX12_init 123 = .ok (.aload_n 0, 1) := by decide +kernel
theorem dX12_init_124 : decode cX12_init 124 = .ok (.bipush 7, 2) := by decide +kernel
theorem dX12_init_126 : decode cX12_init 126 = .ok (.newarray .int, 2) := by decide +kernel
theorem dX12_init_128 : decode cX12_init 128 = .ok (.putfield 58, 3) := by decide +kernel
theorem dX12_init_131 : decode cX12_init 131 = .ok (.aload_n 0, 1) := by decide +kernel
theorem dX12_init_132 : decode cX12_init 132 = .ok (.iconst 4, 1) := by decide +kernel
theorem dX12_init_133 : decode cX12_init 133 = .ok (.newarray .int, 2) := by decide +kernel
theorem dX12_init_135 : decode cX12_init 135 = .ok (.putfield 61, 3) := by decide +kernel
theorem dX12_init_138 : decode cX12_init 138 = .ok (.aload_n 0, 1) := by decide +kernel
theorem dX12_init_139 : decode cX12_init 139 = .ok (.iconst 4, 1) := by decide +kernel
theorem dX12_init_140 : decode cX12_init 140 = .ok (.newarray .int, 2) := by decide +kernel
theorem dX12_init_142 : decode cX12_init 142 = .ok (.putfield 64, 3) := by decide +kernel
theorem dX12_init_145 : decode cX12_init 145 = .ok (.aload_n 0, 1) := by decide +kernel
theorem dX12_init_146 : decode cX12_init 146 = .ok (.iconst 4, 1) := by decide +kernel
theorem dX12_init_147 : decode cX12_init 147 = .ok (.newarray .boolean, 2) := by decide +kernel
theorem dX12_init_149 : decode cX12_init 149 = .ok (.putfield 67, 3) := by decide +kernel
theorem dX12_init_152 : decode cX12_init 152 = .ok (.aload_n 0, 1) := by decide +kernel
theorem dX12_init_153 : decode cX12_init 153 = .ok (.bipush 7, 2) := by decide +kernel
theorem dX12_init_155 : decode cX12_init 155 = .ok (.newarray .boolean, 2) := by decide +kernel
theorem dX12_init_157 : decode cX12_init 157 = .ok (.putfield 71, 3) := by decide +kernel
theorem dX12_init_160 : decode cX12_init 160 = .ok (.aload_n 0, 1) := by decide +kernel
theorem dX12_init_161 : decode cX12_init 161 = .ok (.bipush 49, 2) := by decide +kernel
theorem dX12_init_163 : decode cX12_init 163 = .ok (.newarray .int, 2) := by decide +kernel
theorem dX12_init_165 : decode cX12_init 165 = .ok (.putfield 74, 3) := by decide +kernel
theorem dX12_init_168 : decode cX12_init 168 = .ok (.aload_n 0, 1) := by decide +kernel
theorem dX12_init_169 : decode cX12_init 169 = .ok (.sipush 432, 3) := by decide +kernel
theorem dX12_init_172 : decode cX12_init 172 = .ok (.newarray .int, 2) := by decide +kernel
theorem dX12_init_174 : decode cX12_init 174 = .ok (.putfield 77, 3) := by decide +kernel
theorem dX12_init_177 : decode cX12_init 177 = .ok (.aload_n 0, 1) := by decide +kernel
theorem dX12_init_178 : decode cX12_init 178 = .ok (.iconst 4, 1) := by decide +kernel
theorem dX12_init_179 : decode cX12_init 179 = .ok (.newarray .int, 2) := by decide +kernel
theorem dX12_init_181 : decode cX12_init 181 = .ok (.putfield 80, 3) := by decide +kernel
theorem dX12_init_184 : decode cX12_init 184 = .ok (.aload_n 0, 1) := by decide +kernel
theorem dX12_init_185 : decode cX12_init 185 = .ok (.iconst 4, 1) := by decide +kernel
theorem dX12_init_186 : decode cX12_init 186 = .ok (.newarray .int, 2) := by decide +kernel
theorem dX12_init_188 : decode cX12_init 188 = .ok (.putfield 83, 3) := by decide +kernel
theorem dX12_init_191 : decode cX12_init 191 = .ok (.aload_n 0, 1) := by decide +kernel
theorem dX12_init_192 : decode cX12_init 192 = .ok (.iconst 4, 1) := by decide +kernel
theorem dX12_init_193 : decode cX12_init 193 = .ok (.newarray .boolean, 2) := by decide +kernel
theorem dX12_init_195 : decode cX12_init 195 = .ok (.putfield 86, 3) := by decide +kernel
theorem dX12_init_198 : decode cX12_init 198 = .ok (.return_, 1) := by decide +kernel
theorem dX1_init_0 : decode cX1_init 0 = .ok (.aload_n 0, 1) := by decide +kernel
theorem dX1_init_1 : decode cX1_init 1 = .ok (.invokespecial 3, 3) := by decide +kernel
theorem dX1_init_4 : decode cX1_init 4 = .ok (.aload_n 0, 1) := by decide +kernel
theorem dX1_init_5 : decode cX1_init 5 = .ok (.bipush 7, 2) := by decide +kernel
theorem dX1_init_7 : decode cX1_init 7 = .ok (.newarray .int, 2) := by decide +kernel
theorem dX1_init_9 : decode cX1_init 9 = .ok (.putfield 9, 3) := by decide +kernel
theorem dX1_init_12 : decode cX1_init 12 = .ok (.aload_n 0, 1) := by decide +kernel
theorem dX1_init_13 : decode cX1_init 13 = .ok (.bipush 7, 2) := by decide +kernel
theorem dX1_init_15 : decode cX1_init 15 = .ok (.newarray .int, 2) := by decide +kernel
theorem dX1_init_17 : decode cX1_init 17 = .ok (.putfield 15, 3) := by decide +kernel
theorem dX1_init_20 : decode cX1_init 20 = .ok (.aload_n 0, 1) := by decide +kernel
theorem dX1_init_21 : decode cX1_init 21 = .ok (.bipush 8, 2) := by decide +kernel
theorem dX1_init_23 : decode cX1_init 23 = .ok (.newarray .int, 2) := by decide +kernel
theorem dX1_init_25 : decode cX1_init 25 = .ok (.putfield 18, 3) := by decide +kernel
theorem dX1_init_28 : decode cX1_init 28 = .ok (.aload_n 0, 1) := by decide +kernel
theorem dX1_init_29 : decode cX1_init 29 = .ok (.bipush 8, 2) := by decide +kernel
theorem dX1_init_31 : decode cX1_init 31 = .ok (.newarray .int, 2) := by decide +kernel
theorem dX1_init_33 : decode cX1_init 33 = .ok (.putfield 21, 3) := by decide +kernel
theorem dX1_init_36 : decode cX1_init 36 = .ok (.aload_n 0, 1) := by decide +kernel
theorem dX1_init_37 : decode cX1_init 37 = .ok (.bipush 8, 2) := by decide +kernel
theorem dX1_init_39 : decode cX1_init 39 = .ok (.newarray .int, 2) := by decide +kernel
theorem dX1_init_41 : decode cX1_init 41 = .ok (.putfield 24, 3) := by decide +kernel
theorem dX1_init_44 : decode cX1_init 44 = .ok (.return_, 1) := by decide +kernel
theorem dX2_init_0 : decode cX2_init 0 = .ok (.aload_n 0, 1) := by decide +kernel
theorem dX2_init_1 : decode cX2_init 1 = .ok (.invokespecial 3, 3) := by decide +kernel
theorem dX2_init_4 : decode cX2_init 4 = .ok (.return_, 1) := by decide +kernel
theorem dX3_init_0 : decode cX3_init 0 = .ok (.aload_n 0, 1) := by decide +kernel
theorem dX3_init_1 : decode cX3_init 1 = .ok (.invokespecial 3, 3) := by decide +kernel
theorem dX3_init_4 : decode cX3_init 4 = .ok (.aload_n 0, 1) := by decide +kernel
theorem dX3_init_5 : decode cX3_init 5 = .ok (.new 9, 3) := by decide +kernel
theorem dX3_init_8 : decode cX3_init 8 = .ok (.dup, 1) := by decide +kernel
theorem dX3_init_9 : decode cX3_init 9 = .ok (.invokespecial 11, 3) := by decide +kernel
theorem dX3_init_12 : decode cX3_init 12 = .ok (.putfield 12, 3) := by decide +kernel
theorem dX3_init_15 : decode cX3_init 15 = .ok (.aload_n 0, 1) := by decide +kernel
theorem dX3_init_16 : decode cX3_init 16 = .ok (.new 18, 3) := by decide +kernel
theorem dX3_init_19 : decode cX3_init 19 = .ok (.dup, 1) := by decide +kernel
theorem dX3_init_20 : decode cX3_init 20 = .ok (.invokespecial 20, 3) := by decide +kernel
theorem dX3_init_23 : decode cX3_init 23 = .ok (.putfield 21, 3) := by decide +kernel
theorem dX3_init_26 : decode cX3_init 26 = .ok (.aload_n 0, 1) := by decide +kernel
theorem dX3_init_27 : decode cX3_init 27 = .ok (.bipush 10, 2) := by decide +kernel
theorem dX3_init_29 : decode cX3_init 29 = .ok (.newarray .int, 2) := by decide +kernel
theorem dX3_init_31 : decode cX3_init 31 = .ok (.putfield 25, 3) := by decide +kernel
theorem dX3_init_34 : decode cX3_init 34 = .ok (.aload_n 0, 1) := by decide +kernel
theorem dX3_init_35 : decode cX3_init 35 = .ok (.bipush 10, 2) := by decide +kernel
theorem dX3_init_37 : decode cX3_init 37 = .ok (.newarray .int, 2) := by decide +kernel
theorem dX3_init_39 : decode cX3_init 39 = .ok (.putfield 29, 3) := by decide +kernel
theorem dX3_init_42 : decode cX3_init 42 = .ok (.aload_n 0, 1) := by decide +kernel
theorem dX3_init_43 : decode cX3_init 43 = .ok (.bipush 10, 2) := by decide +kernel
theorem dX3_init_45 : decode cX3_init 45 = .ok (.newarray .int, 2) := by decide +kernel
theorem dX3_init_47 : decode cX3_init 47 = .ok (.putfield 32, 3) := by decide +kernel
theorem dX3_init_50 : decode cX3_init 50 = .ok (.aload_n 0, 1) := by decide +kernel
theorem dX3_init_51 : decode cX3_init 51 = .ok (.iconst (-1), 1) := by decide +kernel
theorem dX3_init_52 : decode cX3_init 52 = .ok (.putfield 35, 3) := by decide +kernel
theorem dX3_init_55 : decode cX3_init 55 = .ok (.return_, 1) := by decide +kernel
theorem dX4_init_0 : decode cX4_init 0 = .ok (.aload_n 0, 1) := by decide +kernel
theorem dX4_init_1 : decode cX4_init 1 = .ok (.invokespecial 3, 3) := by decide +kernel
theorem dX4_init_4 : decode cX4_init 4 = .ok (.aload_n 0, 1) := by decide +kernel
theorem dX4_init_5 : decode cX4_init 5 = .ok (.bipush 12, 2) := by decide +kernel
theorem dX4_init_7 : decode cX4_init 7 = .ok (.newarray .long, 2) := by decide +kernel
theorem dX4_init_9 : decode cX4_init 9 = .ok (.putfield 11, 3) := by decide +kernel
theorem dX4_init_12 : decode cX4_init 12 = .ok (.aload_n 0, 1) := by decide +kernel
theorem dX4_init_13 : decode cX4_init 13 = .ok (.bipush 64, 2) := by decide +kernel
theorem dX4_init_15 : decode cX4_init 15 = .ok (.newarray .long, 2) := by decide +kernel
theorem dX4_init_17 : decode cX4_init 17 = .ok (.putfield 17, 3) := by decide +kernel
theorem dX4_init_20 : decode cX4_init 20 = .ok (.return_, 1) := by decide +kernel
theorem dX5_init_0 : decode cX5_init 0 = .ok (.aload_n 0, 1) := by decide +kernel
theorem dX5_init_1 : decode cX5_init 1 = .ok (.invokespecial 3, 3) := by decide +kernel
theorem dX5_init_4 : decode cX5_init 4 = .ok (.aload_n 0, 1) := by decide +kernel
theorem dX5_init_5 : decode cX5_init 5 = .ok (.bipush 7, 2) := by decide +kernel
theorem dX5_init_7 : decode cX5_init 7 = .ok (.newarray .int, 2) := by decide +kernel
theorem dX5_init_9 : decode cX5_init 9 = .ok (.putfield 9, 3) := by decide +kernel
theorem dX5_init_12 : decode cX5_init 12 = .ok (.aload_n 0, 1) := by decide +kernel
theorem dX5_init_13 : decode cX5_init 13 = .ok (.bipush 7, 2) := by decide +kernel
theorem dX5_init_15 : decode cX5_init 15 = .ok (.newarray .int, 2) := by decide +kernel
theorem dX5_init_17 : decode cX5_init 17 = .ok (.putfield 15, 3) := by decide +kernel
theorem dX5_init_20 : decode cX5_init 20 = .ok (.aload_n 0, 1) := by decide +kernel
theorem dX5_init_21 : decode cX5_init 21 = .ok (.bipush 7, 2) := by decide +kernel
theorem dX5_init_23 : decode cX5_init 23 = .ok (.newarray .int, 2) := by decide +kernel
theorem dX5_init_25 : decode cX5_init 25 = .ok (.putfield 18, 3) := by decide +kernel
theorem dX5_init_28 : decode cX5_init 28 = .ok (.aload_n 0, 1) := by decide +kernel
theorem dX5_init_29 : decode cX5_init 29 = .ok (.bipush 7, 2) := by decide +kernel
theorem dX5_init_31 : decode cX5_init 31 = .ok (.newarray .int, 2) := by decide +kernel
theorem dX5_init_33 : decode cX5_init 33 = .ok (.putfield 21, 3) := by decide +kernel
theorem dX5_init_36 : decode cX5_init 36 = .ok (.return_, 1) := by decide +kernel
theorem dX6_init_0 : decode cX6_init 0 = .ok (.aload_n 0, 1) := by decide +kernel
theorem dX6_init_1 : decode cX6_init 1 = .ok (.invokespecial 3, 3) := by decide +kernel
theorem dX6_init_4 : decode cX6_init 4 = .ok (.aload_n 0, 1) := by decide +kernel
theorem dX6_init_5 : decode cX6_init 5 = .ok (.bipush 7, 2) := by decide +kernel
theorem dX6_init_7 : decode cX6_init 7 = .ok (.newarray .int, 2) := by decide +kernel
theorem dX6_init_9 : decode cX6_init 9 = .ok (.putfield 9, 3) := by decide +kernel
theorem dX6_init_12 : decode cX6_init 12 = .ok (.aload_n 0, 1) := by decide +kernel
theorem dX6_init_13 : decode cX6_init 13 = .ok (.sipush 128, 3) := by decide +kernel
theorem dX6_init_16 : decode cX6_init 16 = .ok (.newarray .int, 2) := by decide +kernel
theorem dX6_init_18 : decode cX6_init 18 = .ok (.putfield 15, 3) := by decide +kernel
theorem dX6_init_21 : decode cX6_init 21 = .ok (.aload_n 0, 1) := by decide +kernel
theorem dX6_init_22 : decode cX6_init 22 = .ok (.bipush 8, 2) := by decide +kernel
theorem dX6_init_24 : decode cX6_init 24 = .ok (.bipush 7, 2) := by decide +kernel
theorem dX6_init_26 : decode cX6_init 26 = .ok (.multianewarray 18 2, 4) := by decide +kernel
theorem dX6_init_30 : decode cX6_init 30 = .ok (.putfield 20, 3) := by decide +kernel
theorem dX6_init_33 : decode cX6_init 33 = .ok (.return_, 1) := by decide +kernel
theorem dX7_init_0 : decode cX7_init 0 = .ok (.aload_n 0, 1) := by decide +kernel
theorem dX7_init_1 : decode cX7_init 1 = .ok (.invokespecial 3, 3) := by decide +kernel
theorem dX7_init_4 : decode cX7_init 4 = .ok (.aload_n 0, 1) := by decide +kernel
theorem dX7_init_5 : decode cX7_init 5 = .ok (.bipush 20, 2) := by decide +kernel
theorem dX7_init_7 : decode cX7_init 7 = .ok (.anewarray 9, 3) := by decide +kernel
theorem dX7_init_10 : decode cX7_init 10 = .ok (.putfield 11, 3) := by decide +kernel
theorem dX7_init_13 : decode cX7_init 13 = .ok (.iconst 0, 1) := by decide +kernel
theorem dX7_init_14 : decode cX7_init 14 = .ok (.istore_n 1, 1) := by decide +kernel
theorem dX7_init_15 : decode cX7_init 15 = .ok (.iload_n 1, 1) := by decide +kernel
theorem dX7_init_16 : decode cX7_init 16 = .ok (.bipush 20, 2) := by decide +kernel
theorem dX7_init_18 : decode cX7_init 18 = .ok (.if_icmp .ge 22, 3) := by decide +kernel
theorem dX7_init_21 : decode cX7_init 21 = .ok (.aload_n 0, 1) := by decide +kernel
theorem dX7_init_22 : decode cX7_init 22 = .ok (.getfield 11, 3) := by decide +kernel
theorem dX7_init_25 : decode cX7_init 25 = .ok (.iload_n 1, 1) := by decide +kernel
theorem dX7_init_26 : decode cX7_init 26 = .ok (.new 9, 3) := by decide +kernel
theorem dX7_init_29 : decode cX7_init 29 = .ok (.dup, 1) := by decide +kernel
theorem dX7_init_30 : decode cX7_init 30 = .ok (.invokespecial 17, 3) := by decide +kernel
theorem dX7_init_33 : decode cX7_init 33 = .ok (.aastore, 1) := by decide +kernel
theorem dX7_init_34 : decode cX7_init 34 = .ok (.iinc 1 1, 3) := by decide +kernel
theorem dX7_init_37 : decode cX7_init 37 = .ok (.goto (-22), 3) := by decide +kernel
theorem dX7_init_40 : decode cX7_init 40 = .ok (.return_, 1) := by decide +kernel
theorem dX9_init_0 : decode cX9_init 0 = .ok (.aload_n 0, 1) := by decide +kernel
theorem dX9_init_1 : decode cX9_init 1 = .ok (.invokespecial 3, 3) := by decide +kernel
theorem dX9_init_4 : decode cX9_init 4 = .ok (.aload_n 0, 1) := by decide +kernel
theorem dX9_init_5 : decode cX9_init 5 = .ok (.sipush 400, 3) := by decide +kernel
theorem dX9_init_8 : decode cX9_init 8 = .ok (.newarray .int, 2) := by decide +kernel
theorem dX9_init_10 : decode cX9_init 10 = .ok (.putfield 11, 3) := by decide +kernel
theorem dX9_init_13 : decode cX9_init 13 = .ok (.aload_n 0, 1) := by decide +kernel
theorem dX9_init_14 : decode cX9_init 14 = .ok (.bipush 24, 2) := by decide +kernel
theorem dX9_init_16 : decode cX9_init 16 = .ok (.newarray .int, 2) := by decide +kernel
theorem dX9_init_18 : decode cX9_init 18 = .ok (.putfield 17, 3) := by decide +kernel
theorem dX9_init_21 : decode cX9_init 21 = .ok (.return_, 1) := by decide +kernel
