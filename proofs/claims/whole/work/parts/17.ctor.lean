abbrev miX0_init : Mi := (yX0_init, cX0_init, 1, none)
abbrev miX9_init : Mi := (yX9_init, cX9_init, 1, none)
abbrev miX8_init : Mi := (yX8_init, cX8_init, 1, none)
abbrev miX4_init : Mi := (yX4_init, cX4_init, 1, none)
abbrev miX1_init : Mi := (yX1_init, cX1_init, 1, none)
abbrev miX2_init : Mi := (yX2_init, cX2_init, 1, none)
abbrev miX3_init : Mi := (yX3_init, cX3_init, 1, none)
abbrev miX6_init : Mi := (yX6_init, cX6_init, 1, none)
abbrev miX7_init : Mi := (yX7_init, cX7_init, 1, none)
abbrev miX10_init : Mi := (yX10_init, cX10_init, 2, none)
abbrev miX5_init : Mi := (yX5_init, cX5_init, 2, none)
abbrev miX11_init : Mi := (yX11_init, cX11_init, 2, none)
abbrev miX12_init : Mi := (yX12_init, cX12_init, 2, none)
set_option maxRecDepth 100000 in
theorem t_114 : Cond.methodLink RX11 1 Lib.objectInit ∈ tb := tb_of 114 (by decide +kernel) (by decide +kernel)
set_option maxRecDepth 100000 in
theorem t_115 : Cond.instanceMethod Lib.objectInit ∈ tb := tb_of 115 (by decide +kernel) (by decide +kernel)
set_option maxRecDepth 100000 in
theorem t_116 : Cond.code Lib.objectInit ⟨#[0xb1]⟩ 1 none ∈ tb := tb_of 116 (by decide +kernel) (by decide +kernel)
set_option maxRecDepth 100000 in
theorem t_117 : Cond.classLink RX11 7 RX3 ∈ tb := tb_of 117 (by decide +kernel) (by decide +kernel)
set_option maxRecDepth 100000 in
theorem t_118 : Cond.instantiable RX3 4 ∈ tb := tb_of 118 (by decide +kernel) (by decide +kernel)
set_option maxRecDepth 100000 in
theorem t_120 : Cond.instanceMethod yX3_init ∈ tb := tb_of 120 (by decide +kernel) (by decide +kernel)
set_option maxRecDepth 100000 in
theorem t_121 : Cond.code yX3_init cX3_init 1 none ∈ tb := tb_of 121 (by decide +kernel) (by decide +kernel)
set_option maxRecDepth 100000 in
theorem t_122 : Cond.methodLink RX3 3 Lib.objectInit ∈ tb := tb_of 122 (by decide +kernel) (by decide +kernel)
set_option maxRecDepth 100000 in
theorem t_149 : Cond.arrayClass .int ∈ tb := tb_of 149 (by decide +kernel) (by decide +kernel)
set_option maxRecDepth 100000 in
theorem t_150 : Cond.classLink RX11 16 RX7 ∈ tb := tb_of 150 (by decide +kernel) (by decide +kernel)
set_option maxRecDepth 100000 in
theorem t_151 : Cond.instantiable RX7 5 ∈ tb := tb_of 151 (by decide +kernel) (by decide +kernel)
set_option maxRecDepth 100000 in
theorem t_153 : Cond.instanceMethod yX7_init ∈ tb := tb_of 153 (by decide +kernel) (by decide +kernel)
set_option maxRecDepth 100000 in
theorem t_154 : Cond.code yX7_init cX7_init 1 none ∈ tb := tb_of 154 (by decide +kernel) (by decide +kernel)
set_option maxRecDepth 100000 in
theorem t_155 : Cond.methodLink RX7 3 Lib.objectInit ∈ tb := tb_of 155 (by decide +kernel) (by decide +kernel)
set_option maxRecDepth 100000 in
theorem t_180 : Cond.classLink RX11 27 RX6 ∈ tb := tb_of 180 (by decide +kernel) (by decide +kernel)
set_option maxRecDepth 100000 in
theorem t_181 : Cond.instantiable RX6 11 ∈ tb := tb_of 181 (by decide +kernel) (by decide +kernel)
set_option maxRecDepth 100000 in
theorem t_183 : Cond.instanceMethod yX6_init ∈ tb := tb_of 183 (by decide +kernel) (by decide +kernel)
set_option maxRecDepth 100000 in
theorem t_184 : Cond.code yX6_init cX6_init 1 none ∈ tb := tb_of 184 (by decide +kernel) (by decide +kernel)
set_option maxRecDepth 100000 in
theorem t_185 : Cond.methodLink RX6 3 Lib.objectInit ∈ tb := tb_of 185 (by decide +kernel) (by decide +kernel)
set_option maxRecDepth 100000 in
theorem t_221 : Cond.arrayClass .byte ∈ tb := tb_of 221 (by decide +kernel) (by decide +kernel)
set_option maxRecDepth 100000 in
theorem t_222 : Cond.classLink RX11 44 ("[" ++ (FieldType.array .int).toString) ∈ tb := tb_of 222 (by decide +kernel) (by decide +kernel)
set_option maxRecDepth 100000 in
theorem t_224 : Cond.classLink RX11 58 RX0 ∈ tb := tb_of 224 (by decide +kernel) (by decide +kernel)
set_option maxRecDepth 100000 in
theorem t_226 : Cond.instantiable RX0 0 ∈ tb := tb_of 226 (by decide +kernel) (by decide +kernel)
set_option maxRecDepth 100000 in
theorem t_228 : Cond.instanceMethod yX0_init ∈ tb := tb_of 228 (by decide +kernel) (by decide +kernel)
set_option maxRecDepth 100000 in
theorem t_229 : Cond.code yX0_init cX0_init 1 none ∈ tb := tb_of 229 (by decide +kernel) (by decide +kernel)
set_option maxRecDepth 100000 in
theorem t_230 : Cond.methodLink RX0 1 Lib.objectInit ∈ tb := tb_of 230 (by decide +kernel) (by decide +kernel)
set_option maxRecDepth 100000 in
theorem t_232 : Cond.classLink RX11 61 RX9 ∈ tb := tb_of 232 (by decide +kernel) (by decide +kernel)
set_option maxRecDepth 100000 in
theorem t_233 : Cond.instantiable RX9 0 ∈ tb := tb_of 233 (by decide +kernel) (by decide +kernel)
set_option maxRecDepth 100000 in
theorem t_235 : Cond.instanceMethod yX9_init ∈ tb := tb_of 235 (by decide +kernel) (by decide +kernel)
set_option maxRecDepth 100000 in
theorem t_236 : Cond.code yX9_init cX9_init 1 none ∈ tb := tb_of 236 (by decide +kernel) (by decide +kernel)
set_option maxRecDepth 100000 in
theorem t_239 : Cond.classLink RX11 64 RX8 ∈ tb := tb_of 239 (by decide +kernel) (by decide +kernel)
set_option maxRecDepth 100000 in
theorem t_240 : Cond.instantiable RX8 0 ∈ tb := tb_of 240 (by decide +kernel) (by decide +kernel)
set_option maxRecDepth 100000 in
theorem t_242 : Cond.instanceMethod yX8_init ∈ tb := tb_of 242 (by decide +kernel) (by decide +kernel)
set_option maxRecDepth 100000 in
theorem t_243 : Cond.code yX8_init cX8_init 1 none ∈ tb := tb_of 243 (by decide +kernel) (by decide +kernel)
set_option maxRecDepth 100000 in
theorem t_246 : Cond.classLink RX11 67 RX1 ∈ tb := tb_of 246 (by decide +kernel) (by decide +kernel)
set_option maxRecDepth 100000 in
theorem t_247 : Cond.instantiable RX1 0 ∈ tb := tb_of 247 (by decide +kernel) (by decide +kernel)
set_option maxRecDepth 100000 in
theorem t_249 : Cond.instanceMethod yX1_init ∈ tb := tb_of 249 (by decide +kernel) (by decide +kernel)
set_option maxRecDepth 100000 in
theorem t_250 : Cond.code yX1_init cX1_init 1 none ∈ tb := tb_of 250 (by decide +kernel) (by decide +kernel)
set_option maxRecDepth 100000 in
theorem t_253 : Cond.classLink RX11 70 RX4 ∈ tb := tb_of 253 (by decide +kernel) (by decide +kernel)
set_option maxRecDepth 100000 in
theorem t_254 : Cond.instantiable RX4 0 ∈ tb := tb_of 254 (by decide +kernel) (by decide +kernel)
set_option maxRecDepth 100000 in
theorem t_256 : Cond.instanceMethod yX4_init ∈ tb := tb_of 256 (by decide +kernel) (by decide +kernel)
set_option maxRecDepth 100000 in
theorem t_257 : Cond.code yX4_init cX4_init 1 none ∈ tb := tb_of 257 (by decide +kernel) (by decide +kernel)
set_option maxRecDepth 100000 in
theorem t_260 : Cond.classLink RX11 73 RX2 ∈ tb := tb_of 260 (by decide +kernel) (by decide +kernel)
set_option maxRecDepth 100000 in
theorem t_261 : Cond.instantiable RX2 0 ∈ tb := tb_of 261 (by decide +kernel) (by decide +kernel)
set_option maxRecDepth 100000 in
theorem t_263 : Cond.instanceMethod yX2_init ∈ tb := tb_of 263 (by decide +kernel) (by decide +kernel)
set_option maxRecDepth 100000 in
theorem t_264 : Cond.code yX2_init cX2_init 1 none ∈ tb := tb_of 264 (by decide +kernel) (by decide +kernel)
set_option maxRecDepth 100000 in
theorem t_267 : Cond.classLink RX11 76 RX10 ∈ tb := tb_of 267 (by decide +kernel) (by decide +kernel)
set_option maxRecDepth 100000 in
theorem t_268 : Cond.instantiable RX10 17 ∈ tb := tb_of 268 (by decide +kernel) (by decide +kernel)
set_option maxRecDepth 100000 in
theorem t_269 : Cond.methodLink RX11 78 yX10_init ∈ tb := tb_of 269 (by decide +kernel) (by decide +kernel)
set_option maxRecDepth 100000 in
theorem t_270 : Cond.instanceMethod yX10_init ∈ tb := tb_of 270 (by decide +kernel) (by decide +kernel)
set_option maxRecDepth 100000 in
theorem t_271 : Cond.code yX10_init cX10_init 2 none ∈ tb := tb_of 271 (by decide +kernel) (by decide +kernel)
set_option maxRecDepth 100000 in
theorem t_272 : Cond.methodLink RX10 3 Lib.objectInit ∈ tb := tb_of 272 (by decide +kernel) (by decide +kernel)
set_option maxRecDepth 100000 in
theorem t_273 : Cond.classLink RX10 27 RX3 ∈ tb := tb_of 273 (by decide +kernel) (by decide +kernel)
set_option maxRecDepth 100000 in
theorem t_275 : Cond.classLink RX10 34 RX6 ∈ tb := tb_of 275 (by decide +kernel) (by decide +kernel)
set_option maxRecDepth 100000 in
theorem t_349 : Cond.classLink RX11 88 RX5 ∈ tb := tb_of 349 (by decide +kernel) (by decide +kernel)
set_option maxRecDepth 100000 in
theorem t_350 : Cond.instantiable RX5 11 ∈ tb := tb_of 350 (by decide +kernel) (by decide +kernel)
set_option maxRecDepth 100000 in
theorem t_351 : Cond.methodLink RX11 90 yX5_init ∈ tb := tb_of 351 (by decide +kernel) (by decide +kernel)
set_option maxRecDepth 100000 in
theorem t_352 : Cond.instanceMethod yX5_init ∈ tb := tb_of 352 (by decide +kernel) (by decide +kernel)
set_option maxRecDepth 100000 in
theorem t_353 : Cond.code yX5_init cX5_init 2 none ∈ tb := tb_of 353 (by decide +kernel) (by decide +kernel)
set_option maxRecDepth 100000 in
theorem t_354 : Cond.methodLink RX5 3 Lib.objectInit ∈ tb := tb_of 354 (by decide +kernel) (by decide +kernel)
set_option maxRecDepth 100000 in
theorem t_355 : Cond.classLink RX5 9 RX3 ∈ tb := tb_of 355 (by decide +kernel) (by decide +kernel)
set_option maxRecDepth 100000 in
theorem of_X0_1 : Of RX0 1 := ⟨t_230, t_115, t_116⟩
set_option maxRecDepth 100000 in
theorem cn_X9_1 : Cn RX9 1 miX0_init 0 := ⟨rfl, rfl, Or.inr ⟨"FloodCellar", List.mem_of_getElem? (i := 5) rfl⟩, t_228, t_93, t_229, ⟨by decide +kernel, by decide +kernel, by decide +kernel⟩, by decide⟩
set_option maxRecDepth 100000 in
theorem cn_X8_1 : Cn RX8 1 miX0_init 0 := ⟨rfl, rfl, Or.inr ⟨"FloodCellar", List.mem_of_getElem? (i := 7) rfl⟩, t_228, t_93, t_229, ⟨by decide +kernel, by decide +kernel, by decide +kernel⟩, by decide⟩
set_option maxRecDepth 100000 in
theorem cn_X4_1 : Cn RX4 1 miX0_init 0 := ⟨rfl, rfl, Or.inr ⟨"FloodCellar", List.mem_of_getElem? (i := 11) rfl⟩, t_228, t_93, t_229, ⟨by decide +kernel, by decide +kernel, by decide +kernel⟩, by decide⟩
set_option maxRecDepth 100000 in
theorem cn_X1_1 : Cn RX1 1 miX8_init 0 := ⟨rfl, rfl, Or.inr ⟨"FloodCellar", List.mem_of_getElem? (i := 9) rfl⟩, t_242, t_95, t_243, ⟨by decide +kernel, by decide +kernel, by decide +kernel⟩, by decide⟩
set_option maxRecDepth 100000 in
theorem cn_X2_1 : Cn RX2 1 miX4_init 0 := ⟨rfl, rfl, Or.inr ⟨"FloodCellar", List.mem_of_getElem? (i := 13) rfl⟩, t_256, t_97, t_257, ⟨by decide +kernel, by decide +kernel, by decide +kernel⟩, by decide⟩
set_option maxRecDepth 100000 in
theorem of_X3_3 : Of RX3 3 := ⟨t_122, t_115, t_116⟩
set_option maxRecDepth 100000 in
theorem ff_X3_9 : Ff RX3 9 3 0 (.array .int) := ⟨RX3, TX3, 4, tyX3, rfl, by decide, inT3, t_123, tyX3_ok, nmX3, rfl, rfl, by decide +kernel⟩
set_option maxRecDepth 100000 in
theorem ff_X3_15 : Ff RX3 15 3 1 (.array .int) := ⟨RX3, TX3, 4, tyX3, rfl, by decide, inT3, t_127, tyX3_ok, nmX3, rfl, rfl, by decide +kernel⟩
set_option maxRecDepth 100000 in
theorem of_X6_3 : Of RX6 3 := ⟨t_185, t_115, t_116⟩
set_option maxRecDepth 100000 in
theorem ff_X6_9 : Ff RX6 9 6 1 (.array .int) := ⟨RX6, TX6, 11, tyX6, rfl, by decide, inT6, t_188, tyX6_ok, nmX6, rfl, rfl, by decide +kernel⟩
set_option maxRecDepth 100000 in
theorem ff_X6_15 : Ff RX6 15 6 2 (.array .int) := ⟨RX6, TX6, 11, tyX6, rfl, by decide, inT6, t_189, tyX6_ok, nmX6, rfl, rfl, by decide +kernel⟩
set_option maxRecDepth 100000 in
theorem ff_X6_18 : Ff RX6 18 6 3 (.array .int) := ⟨RX6, TX6, 11, tyX6, rfl, by decide, inT6, t_190, tyX6_ok, nmX6, rfl, rfl, by decide +kernel⟩
set_option maxRecDepth 100000 in
theorem ff_X6_21 : Ff RX6 21 6 4 (.array .int) := ⟨RX6, TX6, 11, tyX6, rfl, by decide, inT6, t_191, tyX6_ok, nmX6, rfl, rfl, by decide +kernel⟩
set_option maxRecDepth 100000 in
theorem ff_X6_24 : Ff RX6 24 6 6 (.array .int) := ⟨RX6, TX6, 11, tyX6, rfl, by decide, inT6, t_193, tyX6_ok, nmX6, rfl, rfl, by decide +kernel⟩
set_option maxRecDepth 100000 in
theorem ks_201 : (Int16.ofInt (201)).toInt32 = 201 := by decide
set_option maxRecDepth 100000 in
theorem ff_X6_27 : Ff RX6 27 6 7 (.array .int) := ⟨RX6, TX6, 11, tyX6, rfl, by decide, inT6, t_194, tyX6_ok, nmX6, rfl, rfl, by decide +kernel⟩
set_option maxRecDepth 100000 in
theorem ff_X6_30 : Ff RX6 30 6 8 (.array .int) := ⟨RX6, TX6, 11, tyX6, rfl, by decide, inT6, t_195, tyX6_ok, nmX6, rfl, rfl, by decide +kernel⟩
set_option maxRecDepth 100000 in
theorem of_X7_3 : Of RX7 3 := ⟨t_155, t_115, t_116⟩
set_option maxRecDepth 100000 in
theorem ff_X7_9 : Ff RX7 9 7 0 (.array .int) := ⟨RX7, TX7, 5, tyX7, rfl, by decide, inT7, t_156, tyX7_ok, nmX7, rfl, rfl, by decide +kernel⟩
set_option maxRecDepth 100000 in
theorem of_X10_3 : Of RX10 3 := ⟨t_272, t_115, t_116⟩
set_option maxRecDepth 100000 in
theorem ff_X10_9 : Ff RX10 9 10 1 (.array .int) := ⟨RX10, TX10, 17, tyX10, rfl, by decide, inT10, t_279, tyX10_ok, nmX10, rfl, rfl, by decide +kernel⟩
set_option maxRecDepth 100000 in
theorem ff_X10_15 : Ff RX10 15 10 2 (.array .int) := ⟨RX10, TX10, 17, tyX10, rfl, by decide, inT10, t_281, tyX10_ok, nmX10, rfl, rfl, by decide +kernel⟩
set_option maxRecDepth 100000 in
theorem ff_X10_18 : Ff RX10 18 10 3 (.array .int) := ⟨RX10, TX10, 17, tyX10, rfl, by decide, inT10, t_283, tyX10_ok, nmX10, rfl, rfl, by decide +kernel⟩
set_option maxRecDepth 100000 in
theorem ff_X10_21 : Ff RX10 21 10 4 (.array .int) := ⟨RX10, TX10, 17, tyX10, rfl, by decide, inT10, t_285, tyX10_ok, nmX10, rfl, rfl, by decide +kernel⟩
set_option maxRecDepth 100000 in
theorem ff_X10_24 : Ff RX10 24 10 5 (.array .int) := ⟨RX10, TX10, 17, tyX10, rfl, by decide, inT10, t_287, tyX10_ok, nmX10, rfl, rfl, by decide +kernel⟩
set_option maxRecDepth 100000 in
theorem nf_X10_27 : Nf RX10 27 3 [.null, .null, .int 0, .int 0] := ⟨RX3, TX3, 4, tyX3, rfl, inT3, tyX3_ok, t_273, t_118, t_90, by decide +kernel, rfl⟩
set_option maxRecDepth 100000 in
theorem cn_X10_29 : Cn RX10 29 miX3_init 0 := ⟨rfl, rfl, Or.inr ⟨"FloodCellar", List.mem_of_getElem? (i := 14) rfl⟩, t_120, t_90, t_121, ⟨by decide +kernel, by decide +kernel, by decide +kernel⟩, by decide⟩
set_option maxRecDepth 100000 in
theorem ff_X10_30 : Ff RX10 30 10 6 (.object "FloodCellar$Flood") := ⟨RX10, TX10, 17, tyX10, rfl, by decide, inT10, t_289, tyX10_ok, nmX10, rfl, rfl, by decide +kernel⟩
set_option maxRecDepth 100000 in
theorem nf_X10_34 : Nf RX10 34 6 [.int 0, .null, .null, .null, .null, .int 0, .null, .null, .null, .int 0, .int 0] := ⟨RX6, TX6, 11, tyX6, rfl, inT6, tyX6_ok, t_275, t_181, t_92, by decide +kernel, rfl⟩
set_option maxRecDepth 100000 in
theorem cn_X10_36 : Cn RX10 36 miX6_init 0 := ⟨rfl, rfl, Or.inr ⟨"FloodCellar", List.mem_of_getElem? (i := 15) rfl⟩, t_183, t_92, t_184, ⟨by decide +kernel, by decide +kernel, by decide +kernel⟩, by decide⟩
set_option maxRecDepth 100000 in
theorem ff_X10_37 : Ff RX10 37 10 7 (.object "FloodCellar$Rules") := ⟨RX10, TX10, 17, tyX10, rfl, by decide, inT10, t_292, tyX10_ok, nmX10, rfl, rfl, by decide +kernel⟩
set_option maxRecDepth 100000 in
theorem ff_X10_41 : Ff RX10 41 10 8 (.array .int) := ⟨RX10, TX10, 17, tyX10, rfl, by decide, inT10, t_294, tyX10_ok, nmX10, rfl, rfl, by decide +kernel⟩
set_option maxRecDepth 100000 in
theorem ff_X10_44 : Ff RX10 44 10 9 (.array .int) := ⟨RX10, TX10, 17, tyX10, rfl, by decide, inT10, t_296, tyX10_ok, nmX10, rfl, rfl, by decide +kernel⟩
set_option maxRecDepth 100000 in
theorem ff_X10_47 : Ff RX10 47 10 10 (.array .int) := ⟨RX10, TX10, 17, tyX10, rfl, by decide, inT10, t_298, tyX10_ok, nmX10, rfl, rfl, by decide +kernel⟩
set_option maxRecDepth 100000 in
theorem ff_X10_50 : Ff RX10 50 10 11 (.array .int) := ⟨RX10, TX10, 17, tyX10, rfl, by decide, inT10, t_300, tyX10_ok, nmX10, rfl, rfl, by decide +kernel⟩
set_option maxRecDepth 100000 in
theorem ff_X10_60 : Ff RX10 60 10 0 (.array (.object "FloodCellar$Barrel")) := ⟨RX10, TX10, 17, tyX10, rfl, by decide, inT10, t_277, tyX10_ok, nmX10, rfl, rfl, by decide +kernel⟩
set_option maxRecDepth 100000 in
theorem of_X5_3 : Of RX5 3 := ⟨t_354, t_115, t_116⟩
set_option maxRecDepth 100000 in
theorem nf_X5_9 : Nf RX5 9 3 [.null, .null, .int 0, .int 0] := ⟨RX3, TX3, 4, tyX3, rfl, inT3, tyX3_ok, t_355, t_118, t_90, by decide +kernel, rfl⟩
set_option maxRecDepth 100000 in
theorem cn_X5_11 : Cn RX5 11 miX3_init 0 := ⟨rfl, rfl, Or.inr ⟨"FloodCellar", List.mem_of_getElem? (i := 16) rfl⟩, t_120, t_90, t_121, ⟨by decide +kernel, by decide +kernel, by decide +kernel⟩, by decide⟩
set_option maxRecDepth 100000 in
theorem ff_X5_12 : Ff RX5 12 5 1 (.array (.object "FloodCellar$Flood")) := ⟨RX5, TX5, 11, tyX5, rfl, by decide, inT5, t_359, tyX5_ok, nmX5, rfl, rfl, by decide +kernel⟩
set_option maxRecDepth 100000 in
theorem ff_X5_18 : Ff RX5 18 5 2 (.array .int) := ⟨RX5, TX5, 11, tyX5, rfl, by decide, inT5, t_360, tyX5_ok, nmX5, rfl, rfl, by decide +kernel⟩
set_option maxRecDepth 100000 in
theorem ff_X5_22 : Ff RX5 22 5 5 (.array .int) := ⟨RX5, TX5, 11, tyX5, rfl, by decide, inT5, t_363, tyX5_ok, nmX5, rfl, rfl, by decide +kernel⟩
set_option maxRecDepth 100000 in
theorem ff_X5_25 : Ff RX5 25 5 0 (.object "FloodCellar$Vault") := ⟨RX5, TX5, 11, tyX5, rfl, by decide, inT5, t_358, tyX5_ok, nmX5, rfl, rfl, by decide +kernel⟩
set_option maxRecDepth 100000 in
theorem of_X11_1 : Of RX11 1 := ⟨t_114, t_115, t_116⟩
set_option maxRecDepth 100000 in
theorem nf_X11_7 : Nf RX11 7 3 [.null, .null, .int 0, .int 0] := ⟨RX3, TX3, 4, tyX3, rfl, inT3, tyX3_ok, t_117, t_118, t_90, by decide +kernel, rfl⟩
set_option maxRecDepth 100000 in
theorem cn_X11_9 : Cn RX11 9 miX3_init 0 := ⟨rfl, rfl, Or.inr ⟨"FloodCellar", List.mem_of_getElem? (i := 0) rfl⟩, t_120, t_90, t_121, ⟨by decide +kernel, by decide +kernel, by decide +kernel⟩, by decide⟩
set_option maxRecDepth 100000 in
theorem ff_X11_10 : Ff RX11 10 11 3 (.object "FloodCellar$Flood") := ⟨RX11, TX11, 17, tyX11, rfl, by decide, inT11, t_401, tyX11_ok, nmX11, rfl, rfl, by decide +kernel⟩
set_option maxRecDepth 100000 in
theorem nf_X11_16 : Nf RX11 16 7 [.null, .int 0, .int 0, .int 0, .int 0] := ⟨RX7, TX7, 5, tyX7, rfl, inT7, tyX7_ok, t_150, t_151, t_91, by decide +kernel, rfl⟩
set_option maxRecDepth 100000 in
theorem cn_X11_18 : Cn RX11 18 miX7_init 0 := ⟨rfl, rfl, Or.inr ⟨"FloodCellar", List.mem_of_getElem? (i := 1) rfl⟩, t_153, t_91, t_154, ⟨by decide +kernel, by decide +kernel, by decide +kernel⟩, by decide⟩
set_option maxRecDepth 100000 in
theorem ff_X11_19 : Ff RX11 19 11 5 (.object "FloodCellar$Trace") := ⟨RX11, TX11, 17, tyX11, rfl, by decide, inT11, t_403, tyX11_ok, nmX11, rfl, rfl, by decide +kernel⟩
set_option maxRecDepth 100000 in
theorem ff_X11_23 : Ff RX11 23 11 6 (.array .byte) := ⟨RX11, TX11, 17, tyX11, rfl, by decide, inT11, t_404, tyX11_ok, nmX11, rfl, rfl, by decide +kernel⟩
set_option maxRecDepth 100000 in
theorem nf_X11_27 : Nf RX11 27 6 [.int 0, .null, .null, .null, .null, .int 0, .null, .null, .null, .int 0, .int 0] := ⟨RX6, TX6, 11, tyX6, rfl, inT6, tyX6_ok, t_180, t_181, t_92, by decide +kernel, rfl⟩
set_option maxRecDepth 100000 in
theorem cn_X11_29 : Cn RX11 29 miX6_init 0 := ⟨rfl, rfl, Or.inr ⟨"FloodCellar", List.mem_of_getElem? (i := 2) rfl⟩, t_183, t_92, t_184, ⟨by decide +kernel, by decide +kernel, by decide +kernel⟩, by decide⟩
set_option maxRecDepth 100000 in
theorem ff_X11_30 : Ff RX11 30 11 8 (.object "FloodCellar$Rules") := ⟨RX11, TX11, 17, tyX11, rfl, by decide, inT11, t_406, tyX11_ok, nmX11, rfl, rfl, by decide +kernel⟩
set_option maxRecDepth 100000 in
theorem ff_X11_34 : Ff RX11 34 11 9 (.array .int) := ⟨RX11, TX11, 17, tyX11, rfl, by decide, inT11, t_407, tyX11_ok, nmX11, rfl, rfl, by decide +kernel⟩
set_option maxRecDepth 100000 in
theorem ff_X11_38 : Ff RX11 38 11 11 (.array .int) := ⟨RX11, TX11, 17, tyX11, rfl, by decide, inT11, t_409, tyX11_ok, nmX11, rfl, rfl, by decide +kernel⟩
set_option maxRecDepth 100000 in
theorem ff_X11_41 : Ff RX11 41 11 12 (.array .int) := ⟨RX11, TX11, 17, tyX11, rfl, by decide, inT11, t_410, tyX11_ok, nmX11, rfl, rfl, by decide +kernel⟩
set_option maxRecDepth 100000 in
theorem ff_X11_46 : Ff RX11 46 11 13 (.array (.array .int)) := ⟨RX11, TX11, 17, tyX11, rfl, by decide, inT11, t_411, tyX11_ok, nmX11, rfl, rfl, by decide +kernel⟩
set_option maxRecDepth 100000 in
theorem ff_X11_49 : Ff RX11 49 11 14 (.array .int) := ⟨RX11, TX11, 17, tyX11, rfl, by decide, inT11, t_412, tyX11_ok, nmX11, rfl, rfl, by decide +kernel⟩
set_option maxRecDepth 100000 in
theorem ff_X11_52 : Ff RX11 52 11 15 (.array .int) := ⟨RX11, TX11, 17, tyX11, rfl, by decide, inT11, t_413, tyX11_ok, nmX11, rfl, rfl, by decide +kernel⟩
set_option maxRecDepth 100000 in
theorem ff_X11_55 : Ff RX11 55 11 16 (.array .int) := ⟨RX11, TX11, 17, tyX11, rfl, by decide, inT11, t_414, tyX11_ok, nmX11, rfl, rfl, by decide +kernel⟩
set_option maxRecDepth 100000 in
theorem nf_X11_58 : Nf RX11 58 0 [] := ⟨RX0, TX0, 0, tyX0, rfl, inT0, tyX0_ok, t_224, t_226, t_93, by decide +kernel, rfl⟩
set_option maxRecDepth 100000 in
theorem cn_X11_60 : Cn RX11 60 miX0_init 0 := ⟨rfl, rfl, Or.inr ⟨"FloodCellar", List.mem_of_getElem? (i := 3) rfl⟩, t_228, t_93, t_229, ⟨by decide +kernel, by decide +kernel, by decide +kernel⟩, by decide⟩
set_option maxRecDepth 100000 in
theorem nf_X11_61 : Nf RX11 61 9 [] := ⟨RX9, TX9, 0, tyX9, rfl, inT9, tyX9_ok, t_232, t_233, t_94, by decide +kernel, rfl⟩
set_option maxRecDepth 100000 in
theorem cn_X11_63 : Cn RX11 63 miX9_init 0 := ⟨rfl, rfl, Or.inr ⟨"FloodCellar", List.mem_of_getElem? (i := 4) rfl⟩, t_235, t_94, t_236, ⟨by decide +kernel, by decide +kernel, by decide +kernel⟩, by decide⟩
set_option maxRecDepth 100000 in
theorem nf_X11_64 : Nf RX11 64 8 [] := ⟨RX8, TX8, 0, tyX8, rfl, inT8, tyX8_ok, t_239, t_240, t_95, by decide +kernel, rfl⟩
set_option maxRecDepth 100000 in
theorem cn_X11_66 : Cn RX11 66 miX8_init 0 := ⟨rfl, rfl, Or.inr ⟨"FloodCellar", List.mem_of_getElem? (i := 6) rfl⟩, t_242, t_95, t_243, ⟨by decide +kernel, by decide +kernel, by decide +kernel⟩, by decide⟩
set_option maxRecDepth 100000 in
theorem nf_X11_67 : Nf RX11 67 1 [] := ⟨RX1, TX1, 0, tyX1, rfl, inT1, tyX1_ok, t_246, t_247, t_96, by decide +kernel, rfl⟩
set_option maxRecDepth 100000 in
theorem cn_X11_69 : Cn RX11 69 miX1_init 0 := ⟨rfl, rfl, Or.inr ⟨"FloodCellar", List.mem_of_getElem? (i := 8) rfl⟩, t_249, t_96, t_250, ⟨by decide +kernel, by decide +kernel, by decide +kernel⟩, by decide⟩
set_option maxRecDepth 100000 in
theorem nf_X11_70 : Nf RX11 70 4 [] := ⟨RX4, TX4, 0, tyX4, rfl, inT4, tyX4_ok, t_253, t_254, t_97, by decide +kernel, rfl⟩
set_option maxRecDepth 100000 in
theorem cn_X11_72 : Cn RX11 72 miX4_init 0 := ⟨rfl, rfl, Or.inr ⟨"FloodCellar", List.mem_of_getElem? (i := 10) rfl⟩, t_256, t_97, t_257, ⟨by decide +kernel, by decide +kernel, by decide +kernel⟩, by decide⟩
set_option maxRecDepth 100000 in
theorem nf_X11_73 : Nf RX11 73 2 [] := ⟨RX2, TX2, 0, tyX2, rfl, inT2, tyX2_ok, t_260, t_261, t_98, by decide +kernel, rfl⟩
set_option maxRecDepth 100000 in
theorem cn_X11_75 : Cn RX11 75 miX2_init 0 := ⟨rfl, rfl, Or.inr ⟨"FloodCellar", List.mem_of_getElem? (i := 12) rfl⟩, t_263, t_98, t_264, ⟨by decide +kernel, by decide +kernel, by decide +kernel⟩, by decide⟩
set_option maxRecDepth 100000 in
theorem nf_X11_76 : Nf RX11 76 10 [.null, .null, .null, .null, .null, .null, .null, .null, .null, .null, .null, .null, .int 0, .int 0, .int 0, .int 0, .int 0] := ⟨RX10, TX10, 17, tyX10, rfl, inT10, tyX10_ok, t_267, t_268, t_99, by decide +kernel, rfl⟩
set_option maxRecDepth 100000 in
theorem cn_X11_78 : Cn RX11 78 miX10_init 1 := ⟨rfl, rfl, Or.inl t_269, t_270, t_99, t_271, ⟨by decide +kernel, by decide +kernel, by decide +kernel⟩, by decide⟩
set_option maxRecDepth 100000 in
theorem ff_X11_81 : Ff RX11 81 11 0 (.object "FloodCellar$Vault") := ⟨RX11, TX11, 17, tyX11, rfl, by decide, inT11, t_398, tyX11_ok, nmX11, rfl, rfl, by decide +kernel⟩
set_option maxRecDepth 100000 in
theorem ff_X11_85 : Ff RX11 85 11 1 (.object "FloodCellar$Vault") := ⟨RX11, TX11, 17, tyX11, rfl, by decide, inT11, t_399, tyX11_ok, nmX11, rfl, rfl, by decide +kernel⟩
set_option maxRecDepth 100000 in
theorem nf_X11_88 : Nf RX11 88 5 [.null, .null, .null, .int 0, .int 0, .null, .int 0, .int 0, .int 0, .int 0, .int 0] := ⟨RX5, TX5, 11, tyX5, rfl, inT5, tyX5_ok, t_349, t_350, t_100, by decide +kernel, rfl⟩
set_option maxRecDepth 100000 in
theorem cn_X11_90 : Cn RX11 90 miX5_init 1 := ⟨rfl, rfl, Or.inl t_351, t_352, t_100, t_353, ⟨by decide +kernel, by decide +kernel, by decide +kernel⟩, by decide⟩
set_option maxRecDepth 100000 in
theorem ff_X11_93 : Ff RX11 93 11 4 (.object "FloodCellar$Plans") := ⟨RX11, TX11, 17, tyX11, rfl, by decide, inT11, t_402, tyX11_ok, nmX11, rfl, rfl, by decide +kernel⟩
set_option maxRecDepth 100000 in
set_option maxHeartbeats 4000000 in
theorem n_X0_init (l : Launch) (D : va_G) (K : Nat → ClassId) (a ci : Nat) : CtN l D K miX0_init 1 0 0 [.ref a] [(a, .inr (ci, []))] (fun w => w = [(a, .inr (ci, []))]) := by
  refine CtN_of (pn_X0) (Nat.le_of_ble_eq_true rfl) (fun sz => ?_)
  refine XN_lv [0] (lv' := [(0, .ref a)]) rfl ?_
  refine XN_aload_n (a := 0) dX0_init_0 rfl rfl rfl ?_
  refine XN_objInit of_X0_1 (by decide) (by decide) dX0_init_1 rfl ?_
  exact XN_vret rfl rfl (by decide) (by decide) dX0_init_4
set_option maxRecDepth 100000 in
set_option maxHeartbeats 4000000 in
theorem n_X9_init (l : Launch) (D : va_G) (K : Nat → ClassId) (a ci : Nat) : CtN l D K miX9_init 2 0 0 [.ref a] [(a, .inr (ci, []))] (fun w => w = [(a, .inr (ci, []))]) := by
  refine CtN_of (pn_X9) (Nat.le_of_ble_eq_true rfl) (fun sz => ?_)
  refine XN_lv [0] (lv' := [(0, .ref a)]) rfl ?_
  refine XN_aload_n (a := 0) dX9_init_0 rfl rfl rfl ?_
  refine XN_ws (ws' := [] ++ [(a, .inr (ci, []))]) rfl ?_
  refine XN_callI (st := []) (av := []) rfl cn_X9_1 (n_X0_init l D K a ci) (by decide) rfl rfl (Nat.le_of_ble_eq_true rfl) (by decide) (by decide) dX9_init_1 rfl (fun w1 hw1 => ?_)
  subst hw1
  exact XN_vret rfl rfl (by decide) (by decide) dX9_init_4
set_option maxRecDepth 100000 in
set_option maxHeartbeats 4000000 in
theorem n_X8_init (l : Launch) (D : va_G) (K : Nat → ClassId) (a ci : Nat) : CtN l D K miX8_init 2 0 0 [.ref a] [(a, .inr (ci, []))] (fun w => w = [(a, .inr (ci, []))]) := by
  refine CtN_of (pn_X8) (Nat.le_of_ble_eq_true rfl) (fun sz => ?_)
  refine XN_lv [0] (lv' := [(0, .ref a)]) rfl ?_
  refine XN_aload_n (a := 0) dX8_init_0 rfl rfl rfl ?_
  refine XN_ws (ws' := [] ++ [(a, .inr (ci, []))]) rfl ?_
  refine XN_callI (st := []) (av := []) rfl cn_X8_1 (n_X0_init l D K a ci) (by decide) rfl rfl (Nat.le_of_ble_eq_true rfl) (by decide) (by decide) dX8_init_1 rfl (fun w1 hw1 => ?_)
  subst hw1
  exact XN_vret rfl rfl (by decide) (by decide) dX8_init_4
set_option maxRecDepth 100000 in
set_option maxHeartbeats 4000000 in
theorem n_X4_init (l : Launch) (D : va_G) (K : Nat → ClassId) (a ci : Nat) : CtN l D K miX4_init 2 0 0 [.ref a] [(a, .inr (ci, []))] (fun w => w = [(a, .inr (ci, []))]) := by
  refine CtN_of (pn_X4) (Nat.le_of_ble_eq_true rfl) (fun sz => ?_)
  refine XN_lv [0] (lv' := [(0, .ref a)]) rfl ?_
  refine XN_aload_n (a := 0) dX4_init_0 rfl rfl rfl ?_
  refine XN_ws (ws' := [] ++ [(a, .inr (ci, []))]) rfl ?_
  refine XN_callI (st := []) (av := []) rfl cn_X4_1 (n_X0_init l D K a ci) (by decide) rfl rfl (Nat.le_of_ble_eq_true rfl) (by decide) (by decide) dX4_init_1 rfl (fun w1 hw1 => ?_)
  subst hw1
  exact XN_vret rfl rfl (by decide) (by decide) dX4_init_4
set_option maxRecDepth 100000 in
set_option maxHeartbeats 4000000 in
theorem n_X1_init (l : Launch) (D : va_G) (K : Nat → ClassId) (a ci : Nat) : CtN l D K miX1_init 3 0 0 [.ref a] [(a, .inr (ci, []))] (fun w => w = [(a, .inr (ci, []))]) := by
  refine CtN_of (pn_X1) (Nat.le_of_ble_eq_true rfl) (fun sz => ?_)
  refine XN_lv [0] (lv' := [(0, .ref a)]) rfl ?_
  refine XN_aload_n (a := 0) dX1_init_0 rfl rfl rfl ?_
  refine XN_ws (ws' := [] ++ [(a, .inr (ci, []))]) rfl ?_
  refine XN_callI (st := []) (av := []) rfl cn_X1_1 (n_X8_init l D K a ci) (by decide) rfl rfl (Nat.le_of_ble_eq_true rfl) (by decide) (by decide) dX1_init_1 rfl (fun w1 hw1 => ?_)
  subst hw1
  exact XN_vret rfl rfl (by decide) (by decide) dX1_init_4
set_option maxRecDepth 100000 in
set_option maxHeartbeats 4000000 in
theorem n_X2_init (l : Launch) (D : va_G) (K : Nat → ClassId) (a ci : Nat) : CtN l D K miX2_init 3 0 0 [.ref a] [(a, .inr (ci, []))] (fun w => w = [(a, .inr (ci, []))]) := by
  refine CtN_of (pn_X2) (Nat.le_of_ble_eq_true rfl) (fun sz => ?_)
  refine XN_lv [0] (lv' := [(0, .ref a)]) rfl ?_
  refine XN_aload_n (a := 0) dX2_init_0 rfl rfl rfl ?_
  refine XN_ws (ws' := [] ++ [(a, .inr (ci, []))]) rfl ?_
  refine XN_callI (st := []) (av := []) rfl cn_X2_1 (n_X4_init l D K a ci) (by decide) rfl rfl (Nat.le_of_ble_eq_true rfl) (by decide) (by decide) dX2_init_1 rfl (fun w1 hw1 => ?_)
  subst hw1
  exact XN_vret rfl rfl (by decide) (by decide) dX2_init_4
def W_X3_init (K : Nat → ClassId) (a : Nat) (u : Nat → Nat) : va_W := [(a, .inr (3, [.ref (u 0), .ref (u 1), .int 0, .int 0])), ((u 0), .inl (K 0, 6, .inl (fun _ => 0))), ((u 1), .inl (K 0, 6, .inl (fun _ => 0)))]
set_option maxRecDepth 100000 in
set_option maxHeartbeats 4000000 in
theorem n_X3_init (l : Launch) (D : va_G) (K : Nat → ClassId) (a : Nat) : CtN l D K miX3_init 1 2 12 [.ref a] [(a, .inr (3, [.null, .null, .int 0, .int 0]))] (fun w => ∃ (u : Nat → Nat), w = W_X3_init K a u ) := by
  refine CtN_of (pn_X3) (Nat.le_of_ble_eq_true rfl) (fun sz => ?_)
  refine XN_lv [0] (lv' := [(0, .ref a)]) rfl ?_
  refine XN_aload_n (a := 0) dX3_init_0 rfl rfl rfl ?_
  refine XN_objInit of_X3_3 (by decide) (by decide) dX3_init_1 rfl ?_
  refine XN_aload_n (a := 0) dX3_init_4 rfl rfl rfl ?_
  refine XN_bipush (w := 6) dX3_init_5 kb_6 rfl ?_
  refine XN_newi (N := 6) (by decide) (by decide) (by decide) (by decide) (by decide) t_149 dX3_init_7 rfl (fun q7 => ?_)
  refine XN_putF (i := 0) (fs := [.null, .null, .int 0, .int 0]) ff_X3_9 rfl rfl (by decide) rfl rfl dX3_init_9 rfl ?_
  refine XN_aload_n (a := 0) dX3_init_12 rfl rfl rfl ?_
  refine XN_bipush (w := 6) dX3_init_13 kb_6 rfl ?_
  refine XN_newi (N := 6) (by decide) (by decide) (by decide) (by decide) (by decide) t_149 dX3_init_15 rfl (fun q15 => ?_)
  refine XN_putF (i := 0) (fs := [.ref q7, .null, .int 0, .int 0]) ff_X3_15 rfl rfl (by decide) rfl rfl dX3_init_17 rfl ?_
  exact XN_vret rfl ⟨fun i => ([q7, q15] : List Nat).getD i 0, rfl⟩ (by decide) (by decide) dX3_init_20
def W_X6_init (K : Nat → ClassId) (a : Nat) (u : Nat → Nat) : va_W := [(a, .inr (6, [.int 0, .ref (u 0), .ref (u 1), .ref (u 2), .ref (u 3), .int 0, .ref (u 4), .ref (u 5), .ref (u 6), .int 0, .int 0])), ((u 0), .inl (K 0, 8, .inl (fun _ => 0))), ((u 1), .inl (K 0, 8, .inl (fun _ => 0))), ((u 2), .inl (K 0, 9, .inl (fun _ => 0))), ((u 3), .inl (K 0, 200, .inl (fun _ => 0))), ((u 4), .inl (K 0, 5, .inl (fun _ => 0))), ((u 5), .inl (K 0, 201, .inl (fun _ => 0))), ((u 6), .inl (K 0, 201, .inl (fun _ => 0)))]
set_option maxRecDepth 100000 in
set_option maxHeartbeats 4000000 in
theorem n_X6_init (l : Launch) (D : va_G) (K : Nat → ClassId) (a : Nat) : CtN l D K miX6_init 1 7 632 [.ref a] [(a, .inr (6, [.int 0, .null, .null, .null, .null, .int 0, .null, .null, .null, .int 0, .int 0]))] (fun w => ∃ (u : Nat → Nat), w = W_X6_init K a u ) := by
  refine CtN_of (pn_X6) (Nat.le_of_ble_eq_true rfl) (fun sz => ?_)
  refine XN_lv [0] (lv' := [(0, .ref a)]) rfl ?_
  refine XN_aload_n (a := 0) dX6_init_0 rfl rfl rfl ?_
  refine XN_objInit of_X6_3 (by decide) (by decide) dX6_init_1 rfl ?_
  refine XN_aload_n (a := 0) dX6_init_4 rfl rfl rfl ?_
  refine XN_bipush (w := 8) dX6_init_5 kb_8 rfl ?_
  refine XN_newi (N := 8) (by decide) (by decide) (by decide) (by decide) (by decide) t_149 dX6_init_7 rfl (fun q7 => ?_)
  refine XN_putF (i := 0) (fs := [.int 0, .null, .null, .null, .null, .int 0, .null, .null, .null, .int 0, .int 0]) ff_X6_9 rfl rfl (by decide) rfl rfl dX6_init_9 rfl ?_
  refine XN_aload_n (a := 0) dX6_init_12 rfl rfl rfl ?_
  refine XN_bipush (w := 8) dX6_init_13 kb_8 rfl ?_
  refine XN_newi (N := 8) (by decide) (by decide) (by decide) (by decide) (by decide) t_149 dX6_init_15 rfl (fun q15 => ?_)
  refine XN_putF (i := 0) (fs := [.int 0, .ref q7, .null, .null, .null, .int 0, .null, .null, .null, .int 0, .int 0]) ff_X6_15 rfl rfl (by decide) rfl rfl dX6_init_17 rfl ?_
  refine XN_aload_n (a := 0) dX6_init_20 rfl rfl rfl ?_
  refine XN_bipush (w := 9) dX6_init_21 kb_9 rfl ?_
  refine XN_newi (N := 9) (by decide) (by decide) (by decide) (by decide) (by decide) t_149 dX6_init_23 rfl (fun q23 => ?_)
  refine XN_putF (i := 0) (fs := [.int 0, .ref q7, .ref q15, .null, .null, .int 0, .null, .null, .null, .int 0, .int 0]) ff_X6_18 rfl rfl (by decide) rfl rfl dX6_init_25 rfl ?_
  refine XN_aload_n (a := 0) dX6_init_28 rfl rfl rfl ?_
  refine XN_sipush (w := 200) dX6_init_29 ks_200 rfl ?_
  refine XN_newi (N := 200) (by decide) (by decide) (by decide) (by decide) (by decide) t_149 dX6_init_32 rfl (fun q32 => ?_)
  refine XN_putF (i := 0) (fs := [.int 0, .ref q7, .ref q15, .ref q23, .null, .int 0, .null, .null, .null, .int 0, .int 0]) ff_X6_21 rfl rfl (by decide) rfl rfl dX6_init_34 rfl ?_
  refine XN_aload_n (a := 0) dX6_init_37 rfl rfl rfl ?_
  refine XN_iconst (w := 5) dX6_init_38 ki_5 rfl ?_
  refine XN_newi (N := 5) (by decide) (by decide) (by decide) (by decide) (by decide) t_149 dX6_init_39 rfl (fun q39 => ?_)
  refine XN_putF (i := 0) (fs := [.int 0, .ref q7, .ref q15, .ref q23, .ref q32, .int 0, .null, .null, .null, .int 0, .int 0]) ff_X6_24 rfl rfl (by decide) rfl rfl dX6_init_41 rfl ?_
  refine XN_aload_n (a := 0) dX6_init_44 rfl rfl rfl ?_
  refine XN_sipush (w := 201) dX6_init_45 ks_201 rfl ?_
  refine XN_newi (N := 201) (by decide) (by decide) (by decide) (by decide) (by decide) t_149 dX6_init_48 rfl (fun q48 => ?_)
  refine XN_putF (i := 0) (fs := [.int 0, .ref q7, .ref q15, .ref q23, .ref q32, .int 0, .ref q39, .null, .null, .int 0, .int 0]) ff_X6_27 rfl rfl (by decide) rfl rfl dX6_init_50 rfl ?_
  refine XN_aload_n (a := 0) dX6_init_53 rfl rfl rfl ?_
  refine XN_sipush (w := 201) dX6_init_54 ks_201 rfl ?_
  refine XN_newi (N := 201) (by decide) (by decide) (by decide) (by decide) (by decide) t_149 dX6_init_57 rfl (fun q57 => ?_)
  refine XN_putF (i := 0) (fs := [.int 0, .ref q7, .ref q15, .ref q23, .ref q32, .int 0, .ref q39, .ref q48, .null, .int 0, .int 0]) ff_X6_30 rfl rfl (by decide) rfl rfl dX6_init_59 rfl ?_
  exact XN_vret rfl ⟨fun i => ([q7, q15, q23, q32, q39, q48, q57] : List Nat).getD i 0, rfl⟩ (by decide) (by decide) dX6_init_62
def W_X7_init (K : Nat → ClassId) (a : Nat) (u : Nat → Nat) : va_W := [(a, .inr (7, [.ref (u 0), .int 0, .int 0, .int 0, .int 0])), ((u 0), .inl (K 0, 30, .inl (fun _ => 0)))]
set_option maxRecDepth 100000 in
set_option maxHeartbeats 4000000 in
theorem n_X7_init (l : Launch) (D : va_G) (K : Nat → ClassId) (a : Nat) : CtN l D K miX7_init 1 1 30 [.ref a] [(a, .inr (7, [.null, .int 0, .int 0, .int 0, .int 0]))] (fun w => ∃ (u : Nat → Nat), w = W_X7_init K a u ) := by
  refine CtN_of (pn_X7) (Nat.le_of_ble_eq_true rfl) (fun sz => ?_)
  refine XN_lv [0] (lv' := [(0, .ref a)]) rfl ?_
  refine XN_aload_n (a := 0) dX7_init_0 rfl rfl rfl ?_
  refine XN_objInit of_X7_3 (by decide) (by decide) dX7_init_1 rfl ?_
  refine XN_aload_n (a := 0) dX7_init_4 rfl rfl rfl ?_
  refine XN_bipush (w := 30) dX7_init_5 kb_30 rfl ?_
  refine XN_newi (N := 30) (by decide) (by decide) (by decide) (by decide) (by decide) t_149 dX7_init_7 rfl (fun q7 => ?_)
  refine XN_putF (i := 0) (fs := [.null, .int 0, .int 0, .int 0, .int 0]) ff_X7_9 rfl rfl (by decide) rfl rfl dX7_init_9 rfl ?_
  exact XN_vret rfl ⟨fun i => ([q7] : List Nat).getD i 0, rfl⟩ (by decide) (by decide) dX7_init_12
def W_X10_init (K : Nat → ClassId) (a : Nat) (nt : Nat) (u : Nat → Nat) (g0 : Nat → Int32) : va_W := [(a, .inr (10, [.ref nt, .ref (u 0), .ref (u 1), .ref (u 2), .ref (u 3), .ref (u 4), .ref (u 5), .ref (u 8), .ref (u 16), .ref (u 17), .ref (u 18), .ref (u 19), .int 0, .int 12, .int 0, .int 0, .int 1])), ((u 0), .inl (K 0, 6, .inl (fun _ => 0))), ((u 1), .inl (K 0, 6, .inl (fun _ => 0))), ((u 2), .inl (K 0, 16, .inl (g0))), ((u 3), .inl (K 0, 6, .inl (fun _ => 0))), ((u 4), .inl (K 0, 6, .inl (fun _ => 0))), ((u 5), .inr (3, [.ref (u 6), .ref (u 7), .int 0, .int 0])), ((u 6), .inl (K 0, 6, .inl (fun _ => 0))), ((u 7), .inl (K 0, 6, .inl (fun _ => 0))), ((u 8), .inr (6, [.int 0, .ref (u 9), .ref (u 10), .ref (u 11), .ref (u 12), .int 0, .ref (u 13), .ref (u 14), .ref (u 15), .int 0, .int 0])), ((u 9), .inl (K 0, 8, .inl (fun _ => 0))), ((u 10), .inl (K 0, 8, .inl (fun _ => 0))), ((u 11), .inl (K 0, 9, .inl (fun _ => 0))), ((u 12), .inl (K 0, 200, .inl (fun _ => 0))), ((u 13), .inl (K 0, 5, .inl (fun _ => 0))), ((u 14), .inl (K 0, 201, .inl (fun _ => 0))), ((u 15), .inl (K 0, 201, .inl (fun _ => 0))), ((u 16), .inl (K 0, 6, .inl (fun _ => 0))), ((u 17), .inl (K 0, 6, .inl (fun _ => 0))), ((u 18), .inl (K 0, 6, .inl (fun _ => 0))), ((u 19), .inl (K 0, 6, .inl (fun _ => 0)))]
set_option maxRecDepth 100000 in
set_option maxHeartbeats 4000000 in
theorem n_X10_init (l : Launch) (D : va_G) (K : Nat → ClassId) (a : Nat) (nt : Nat) : CtN l D K miX10_init 2 20 723 [.ref a, .ref nt] [(a, .inr (10, [.null, .null, .null, .null, .null, .null, .null, .null, .null, .null, .null, .null, .int 0, .int 0, .int 0, .int 0, .int 0]))] (fun w => ∃ (u : Nat → Nat) (g0 : Nat → Int32), w = W_X10_init K a nt u g0 ∧ (∀ j, j < 16 → g0 j = 9)) := by
  refine CtN_of (pn_X10) (Nat.le_of_ble_eq_true rfl) (fun sz => ?_)
  refine XN_lv [0, 1] (lv' := [(0, .ref a), (1, .ref nt)]) rfl ?_
  refine XN_aload_n (a := 0) dX10_init_0 rfl rfl rfl ?_
  refine XN_objInit of_X10_3 (by decide) (by decide) dX10_init_1 rfl ?_
  refine XN_aload_n (a := 0) dX10_init_4 rfl rfl rfl ?_
  refine XN_bipush (w := 6) dX10_init_5 kb_6 rfl ?_
  refine XN_newi (N := 6) (by decide) (by decide) (by decide) (by decide) (by decide) t_149 dX10_init_7 rfl (fun q7 => ?_)
  refine XN_putF (i := 0) (fs := [.null, .null, .null, .null, .null, .null, .null, .null, .null, .null, .null, .null, .int 0, .int 0, .int 0, .int 0, .int 0]) ff_X10_9 rfl rfl (by decide) rfl rfl dX10_init_9 rfl ?_
  refine XN_aload_n (a := 0) dX10_init_12 rfl rfl rfl ?_
  refine XN_bipush (w := 6) dX10_init_13 kb_6 rfl ?_
  refine XN_newi (N := 6) (by decide) (by decide) (by decide) (by decide) (by decide) t_149 dX10_init_15 rfl (fun q15 => ?_)
  refine XN_putF (i := 0) (fs := [.null, .ref q7, .null, .null, .null, .null, .null, .null, .null, .null, .null, .null, .int 0, .int 0, .int 0, .int 0, .int 0]) ff_X10_15 rfl rfl (by decide) rfl rfl dX10_init_17 rfl ?_
  refine XN_aload_n (a := 0) dX10_init_20 rfl rfl rfl ?_
  refine XN_bipush (w := 16) dX10_init_21 kb_16 rfl ?_
  refine XN_newi (N := 16) (by decide) (by decide) (by decide) (by decide) (by decide) t_149 dX10_init_23 rfl (fun q23 => ?_)
  refine XN_dup dX10_init_25 rfl rfl ?_
  refine XN_iconst (w := 0) dX10_init_26 ki_0 rfl ?_
  refine XN_bipush (w := 9) dX10_init_27 kb_9 rfl ?_
  refine XN_iast (i := 3) (n := 16) (f := fun _ => 0) rfl (by unfold vp_in; decide) dX10_init_29 rfl ?_
  refine XN_dup dX10_init_30 rfl rfl ?_
  refine XN_iconst (w := 1) dX10_init_31 ki_1 rfl ?_
  refine XN_bipush (w := 9) dX10_init_32 kb_9 rfl ?_
  refine XN_iast (i := 3) (n := 16) (f := upd (fun _ => 0) (Int32.toNatClampNeg 0) 9) rfl (by unfold vp_in; decide) dX10_init_34 rfl ?_
  refine XN_dup dX10_init_35 rfl rfl ?_
  refine XN_iconst (w := 2) dX10_init_36 ki_2 rfl ?_
  refine XN_bipush (w := 9) dX10_init_37 kb_9 rfl ?_
  refine XN_iast (i := 3) (n := 16) (f := upd (upd (fun _ => 0) (Int32.toNatClampNeg 0) 9) (Int32.toNatClampNeg 1) 9) rfl (by unfold vp_in; decide) dX10_init_39 rfl ?_
  refine XN_dup dX10_init_40 rfl rfl ?_
  refine XN_iconst (w := 3) dX10_init_41 ki_3 rfl ?_
  refine XN_bipush (w := 9) dX10_init_42 kb_9 rfl ?_
  refine XN_iast (i := 3) (n := 16) (f := upd (upd (upd (fun _ => 0) (Int32.toNatClampNeg 0) 9) (Int32.toNatClampNeg 1) 9) (Int32.toNatClampNeg 2) 9) rfl (by unfold vp_in; decide) dX10_init_44 rfl ?_
  refine XN_dup dX10_init_45 rfl rfl ?_
  refine XN_iconst (w := 4) dX10_init_46 ki_4 rfl ?_
  refine XN_bipush (w := 9) dX10_init_47 kb_9 rfl ?_
  refine XN_iast (i := 3) (n := 16) (f := upd (upd (upd (upd (fun _ => 0) (Int32.toNatClampNeg 0) 9) (Int32.toNatClampNeg 1) 9) (Int32.toNatClampNeg 2) 9) (Int32.toNatClampNeg 3) 9) rfl (by unfold vp_in; decide) dX10_init_49 rfl ?_
  refine XN_dup dX10_init_50 rfl rfl ?_
  refine XN_iconst (w := 5) dX10_init_51 ki_5 rfl ?_
  refine XN_bipush (w := 9) dX10_init_52 kb_9 rfl ?_
  refine XN_iast (i := 3) (n := 16) (f := upd (upd (upd (upd (upd (fun _ => 0) (Int32.toNatClampNeg 0) 9) (Int32.toNatClampNeg 1) 9) (Int32.toNatClampNeg 2) 9) (Int32.toNatClampNeg 3) 9) (Int32.toNatClampNeg 4) 9) rfl (by unfold vp_in; decide) dX10_init_54 rfl ?_
  refine XN_dup dX10_init_55 rfl rfl ?_
  refine XN_bipush (w := 6) dX10_init_56 kb_6 rfl ?_
  refine XN_bipush (w := 9) dX10_init_58 kb_9 rfl ?_
  refine XN_iast (i := 3) (n := 16) (f := upd (upd (upd (upd (upd (upd (fun _ => 0) (Int32.toNatClampNeg 0) 9) (Int32.toNatClampNeg 1) 9) (Int32.toNatClampNeg 2) 9) (Int32.toNatClampNeg 3) 9) (Int32.toNatClampNeg 4) 9) (Int32.toNatClampNeg 5) 9) rfl (by unfold vp_in; decide) dX10_init_60 rfl ?_
  refine XN_dup dX10_init_61 rfl rfl ?_
  refine XN_bipush (w := 7) dX10_init_62 kb_7 rfl ?_
  refine XN_bipush (w := 9) dX10_init_64 kb_9 rfl ?_
  refine XN_iast (i := 3) (n := 16) (f := upd (upd (upd (upd (upd (upd (upd (fun _ => 0) (Int32.toNatClampNeg 0) 9) (Int32.toNatClampNeg 1) 9) (Int32.toNatClampNeg 2) 9) (Int32.toNatClampNeg 3) 9) (Int32.toNatClampNeg 4) 9) (Int32.toNatClampNeg 5) 9) (Int32.toNatClampNeg 6) 9) rfl (by unfold vp_in; decide) dX10_init_66 rfl ?_
  refine XN_dup dX10_init_67 rfl rfl ?_
  refine XN_bipush (w := 8) dX10_init_68 kb_8 rfl ?_
  refine XN_bipush (w := 9) dX10_init_70 kb_9 rfl ?_
  refine XN_iast (i := 3) (n := 16) (f := upd (upd (upd (upd (upd (upd (upd (upd (fun _ => 0) (Int32.toNatClampNeg 0) 9) (Int32.toNatClampNeg 1) 9) (Int32.toNatClampNeg 2) 9) (Int32.toNatClampNeg 3) 9) (Int32.toNatClampNeg 4) 9) (Int32.toNatClampNeg 5) 9) (Int32.toNatClampNeg 6) 9) (Int32.toNatClampNeg 7) 9) rfl (by unfold vp_in; decide) dX10_init_72 rfl ?_
  refine XN_dup dX10_init_73 rfl rfl ?_
  refine XN_bipush (w := 9) dX10_init_74 kb_9 rfl ?_
  refine XN_bipush (w := 9) dX10_init_76 kb_9 rfl ?_
  refine XN_iast (i := 3) (n := 16) (f := upd (upd (upd (upd (upd (upd (upd (upd (upd (fun _ => 0) (Int32.toNatClampNeg 0) 9) (Int32.toNatClampNeg 1) 9) (Int32.toNatClampNeg 2) 9) (Int32.toNatClampNeg 3) 9) (Int32.toNatClampNeg 4) 9) (Int32.toNatClampNeg 5) 9) (Int32.toNatClampNeg 6) 9) (Int32.toNatClampNeg 7) 9) (Int32.toNatClampNeg 8) 9) rfl (by unfold vp_in; decide) dX10_init_78 rfl ?_
  refine XN_dup dX10_init_79 rfl rfl ?_
  refine XN_bipush (w := 10) dX10_init_80 kb_10 rfl ?_
  refine XN_bipush (w := 9) dX10_init_82 kb_9 rfl ?_
  refine XN_iast (i := 3) (n := 16) (f := upd (upd (upd (upd (upd (upd (upd (upd (upd (upd (fun _ => 0) (Int32.toNatClampNeg 0) 9) (Int32.toNatClampNeg 1) 9) (Int32.toNatClampNeg 2) 9) (Int32.toNatClampNeg 3) 9) (Int32.toNatClampNeg 4) 9) (Int32.toNatClampNeg 5) 9) (Int32.toNatClampNeg 6) 9) (Int32.toNatClampNeg 7) 9) (Int32.toNatClampNeg 8) 9) (Int32.toNatClampNeg 9) 9) rfl (by unfold vp_in; decide) dX10_init_84 rfl ?_
  refine XN_dup dX10_init_85 rfl rfl ?_
  refine XN_bipush (w := 11) dX10_init_86 kb_11 rfl ?_
  refine XN_bipush (w := 9) dX10_init_88 kb_9 rfl ?_
  refine XN_iast (i := 3) (n := 16) (f := upd (upd (upd (upd (upd (upd (upd (upd (upd (upd (upd (fun _ => 0) (Int32.toNatClampNeg 0) 9) (Int32.toNatClampNeg 1) 9) (Int32.toNatClampNeg 2) 9) (Int32.toNatClampNeg 3) 9) (Int32.toNatClampNeg 4) 9) (Int32.toNatClampNeg 5) 9) (Int32.toNatClampNeg 6) 9) (Int32.toNatClampNeg 7) 9) (Int32.toNatClampNeg 8) 9) (Int32.toNatClampNeg 9) 9) (Int32.toNatClampNeg 10) 9) rfl (by unfold vp_in; decide) dX10_init_90 rfl ?_
  refine XN_dup dX10_init_91 rfl rfl ?_
  refine XN_bipush (w := 12) dX10_init_92 kb_12 rfl ?_
  refine XN_bipush (w := 9) dX10_init_94 kb_9 rfl ?_
  refine XN_iast (i := 3) (n := 16) (f := upd (upd (upd (upd (upd (upd (upd (upd (upd (upd (upd (upd (fun _ => 0) (Int32.toNatClampNeg 0) 9) (Int32.toNatClampNeg 1) 9) (Int32.toNatClampNeg 2) 9) (Int32.toNatClampNeg 3) 9) (Int32.toNatClampNeg 4) 9) (Int32.toNatClampNeg 5) 9) (Int32.toNatClampNeg 6) 9) (Int32.toNatClampNeg 7) 9) (Int32.toNatClampNeg 8) 9) (Int32.toNatClampNeg 9) 9) (Int32.toNatClampNeg 10) 9) (Int32.toNatClampNeg 11) 9) rfl (by unfold vp_in; decide) dX10_init_96 rfl ?_
  refine XN_dup dX10_init_97 rfl rfl ?_
  refine XN_bipush (w := 13) dX10_init_98 kb_13 rfl ?_
  refine XN_bipush (w := 9) dX10_init_100 kb_9 rfl ?_
  refine XN_iast (i := 3) (n := 16) (f := upd (upd (upd (upd (upd (upd (upd (upd (upd (upd (upd (upd (upd (fun _ => 0) (Int32.toNatClampNeg 0) 9) (Int32.toNatClampNeg 1) 9) (Int32.toNatClampNeg 2) 9) (Int32.toNatClampNeg 3) 9) (Int32.toNatClampNeg 4) 9) (Int32.toNatClampNeg 5) 9) (Int32.toNatClampNeg 6) 9) (Int32.toNatClampNeg 7) 9) (Int32.toNatClampNeg 8) 9) (Int32.toNatClampNeg 9) 9) (Int32.toNatClampNeg 10) 9) (Int32.toNatClampNeg 11) 9) (Int32.toNatClampNeg 12) 9) rfl (by unfold vp_in; decide) dX10_init_102 rfl ?_
  refine XN_dup dX10_init_103 rfl rfl ?_
  refine XN_bipush (w := 14) dX10_init_104 kb_14 rfl ?_
  refine XN_bipush (w := 9) dX10_init_106 kb_9 rfl ?_
  refine XN_iast (i := 3) (n := 16) (f := upd (upd (upd (upd (upd (upd (upd (upd (upd (upd (upd (upd (upd (upd (fun _ => 0) (Int32.toNatClampNeg 0) 9) (Int32.toNatClampNeg 1) 9) (Int32.toNatClampNeg 2) 9) (Int32.toNatClampNeg 3) 9) (Int32.toNatClampNeg 4) 9) (Int32.toNatClampNeg 5) 9) (Int32.toNatClampNeg 6) 9) (Int32.toNatClampNeg 7) 9) (Int32.toNatClampNeg 8) 9) (Int32.toNatClampNeg 9) 9) (Int32.toNatClampNeg 10) 9) (Int32.toNatClampNeg 11) 9) (Int32.toNatClampNeg 12) 9) (Int32.toNatClampNeg 13) 9) rfl (by unfold vp_in; decide) dX10_init_108 rfl ?_
  refine XN_dup dX10_init_109 rfl rfl ?_
  refine XN_bipush (w := 15) dX10_init_110 kb_15 rfl ?_
  refine XN_bipush (w := 9) dX10_init_112 kb_9 rfl ?_
  refine XN_iast (i := 3) (n := 16) (f := upd (upd (upd (upd (upd (upd (upd (upd (upd (upd (upd (upd (upd (upd (upd (fun _ => 0) (Int32.toNatClampNeg 0) 9) (Int32.toNatClampNeg 1) 9) (Int32.toNatClampNeg 2) 9) (Int32.toNatClampNeg 3) 9) (Int32.toNatClampNeg 4) 9) (Int32.toNatClampNeg 5) 9) (Int32.toNatClampNeg 6) 9) (Int32.toNatClampNeg 7) 9) (Int32.toNatClampNeg 8) 9) (Int32.toNatClampNeg 9) 9) (Int32.toNatClampNeg 10) 9) (Int32.toNatClampNeg 11) 9) (Int32.toNatClampNeg 12) 9) (Int32.toNatClampNeg 13) 9) (Int32.toNatClampNeg 14) 9) rfl (by unfold vp_in; decide) dX10_init_114 rfl ?_
  refine XN_putF (i := 0) (fs := [.null, .ref q7, .ref q15, .null, .null, .null, .null, .null, .null, .null, .null, .null, .int 0, .int 0, .int 0, .int 0, .int 0]) ff_X10_18 rfl rfl (by decide) rfl rfl dX10_init_115 rfl ?_
  refine XN_aload_n (a := 0) dX10_init_118 rfl rfl rfl ?_
  refine XN_bipush (w := 6) dX10_init_119 kb_6 rfl ?_
  refine XN_newi (N := 6) (by decide) (by decide) (by decide) (by decide) (by decide) t_149 dX10_init_121 rfl (fun q121 => ?_)
  refine XN_putF (i := 0) (fs := [.null, .ref q7, .ref q15, .ref q23, .null, .null, .null, .null, .null, .null, .null, .null, .int 0, .int 0, .int 0, .int 0, .int 0]) ff_X10_21 rfl rfl (by decide) rfl rfl dX10_init_123 rfl ?_
  refine XN_aload_n (a := 0) dX10_init_126 rfl rfl rfl ?_
  refine XN_bipush (w := 6) dX10_init_127 kb_6 rfl ?_
  refine XN_newi (N := 6) (by decide) (by decide) (by decide) (by decide) (by decide) t_149 dX10_init_129 rfl (fun q129 => ?_)
  refine XN_putF (i := 0) (fs := [.null, .ref q7, .ref q15, .ref q23, .ref q121, .null, .null, .null, .null, .null, .null, .null, .int 0, .int 0, .int 0, .int 0, .int 0]) ff_X10_24 rfl rfl (by decide) rfl rfl dX10_init_131 rfl ?_
  refine XN_aload_n (a := 0) dX10_init_134 rfl rfl rfl ?_
  refine XN_new nf_X10_27 (by decide) (by decide) dX10_init_135 rfl (fun q135 => ?_)
  refine XN_dup dX10_init_138 rfl rfl ?_
  refine XN_callI (st := [.ref q135, .ref a]) (av := []) rfl cn_X10_29 (n_X3_init l D K q135) (by decide) rfl rfl (Nat.le_of_ble_eq_true rfl) (by decide) (by decide) dX10_init_139 rfl (fun w139 hw139 => ?_)
  obtain ⟨u139, rfl⟩ := hw139
  refine XN_putF (i := 0) (fs := [.null, .ref q7, .ref q15, .ref q23, .ref q121, .ref q129, .null, .null, .null, .null, .null, .null, .int 0, .int 0, .int 0, .int 0, .int 0]) ff_X10_30 rfl rfl (by decide) rfl rfl dX10_init_142 rfl ?_
  refine XN_aload_n (a := 0) dX10_init_145 rfl rfl rfl ?_
  refine XN_new nf_X10_34 (by decide) (by decide) dX10_init_146 rfl (fun q146 => ?_)
  refine XN_dup dX10_init_149 rfl rfl ?_
  refine XN_callI (st := [.ref q146, .ref a]) (av := []) rfl cn_X10_36 (n_X6_init l D K q146) (by decide) rfl rfl (Nat.le_of_ble_eq_true rfl) (by decide) (by decide) dX10_init_150 rfl (fun w150 hw150 => ?_)
  obtain ⟨u150, rfl⟩ := hw150
  refine XN_putF (i := 0) (fs := [.null, .ref q7, .ref q15, .ref q23, .ref q121, .ref q129, .ref q135, .null, .null, .null, .null, .null, .int 0, .int 0, .int 0, .int 0, .int 0]) ff_X10_37 rfl rfl (by decide) rfl rfl dX10_init_153 rfl ?_
  refine XN_aload_n (a := 0) dX10_init_156 rfl rfl rfl ?_
  refine XN_bipush (w := 6) dX10_init_157 kb_6 rfl ?_
  refine XN_newi (N := 6) (by decide) (by decide) (by decide) (by decide) (by decide) t_149 dX10_init_159 rfl (fun q159 => ?_)
  refine XN_putF (i := 0) (fs := [.null, .ref q7, .ref q15, .ref q23, .ref q121, .ref q129, .ref q135, .ref q146, .null, .null, .null, .null, .int 0, .int 0, .int 0, .int 0, .int 0]) ff_X10_41 rfl rfl (by decide) rfl rfl dX10_init_161 rfl ?_
  refine XN_aload_n (a := 0) dX10_init_164 rfl rfl rfl ?_
  refine XN_bipush (w := 6) dX10_init_165 kb_6 rfl ?_
  refine XN_newi (N := 6) (by decide) (by decide) (by decide) (by decide) (by decide) t_149 dX10_init_167 rfl (fun q167 => ?_)
  refine XN_putF (i := 0) (fs := [.null, .ref q7, .ref q15, .ref q23, .ref q121, .ref q129, .ref q135, .ref q146, .ref q159, .null, .null, .null, .int 0, .int 0, .int 0, .int 0, .int 0]) ff_X10_44 rfl rfl (by decide) rfl rfl dX10_init_169 rfl ?_
  refine XN_aload_n (a := 0) dX10_init_172 rfl rfl rfl ?_
  refine XN_bipush (w := 6) dX10_init_173 kb_6 rfl ?_
  refine XN_newi (N := 6) (by decide) (by decide) (by decide) (by decide) (by decide) t_149 dX10_init_175 rfl (fun q175 => ?_)
  refine XN_putF (i := 0) (fs := [.null, .ref q7, .ref q15, .ref q23, .ref q121, .ref q129, .ref q135, .ref q146, .ref q159, .ref q167, .null, .null, .int 0, .int 0, .int 0, .int 0, .int 0]) ff_X10_47 rfl rfl (by decide) rfl rfl dX10_init_177 rfl ?_
  refine XN_aload_n (a := 0) dX10_init_180 rfl rfl rfl ?_
  refine XN_bipush (w := 6) dX10_init_181 kb_6 rfl ?_
  refine XN_newi (N := 6) (by decide) (by decide) (by decide) (by decide) (by decide) t_149 dX10_init_183 rfl (fun q183 => ?_)
  refine XN_putF (i := 0) (fs := [.null, .ref q7, .ref q15, .ref q23, .ref q121, .ref q129, .ref q135, .ref q146, .ref q159, .ref q167, .ref q175, .null, .int 0, .int 0, .int 0, .int 0, .int 0]) ff_X10_50 rfl rfl (by decide) rfl rfl dX10_init_185 rfl ?_
  refine XN_aload_n (a := 0) dX10_init_188 rfl rfl rfl ?_
  refine XN_bipush (w := 12) dX10_init_189 kb_12 rfl ?_
  refine XN_putI (i := 0) (fs := [.null, .ref q7, .ref q15, .ref q23, .ref q121, .ref q129, .ref q135, .ref q146, .ref q159, .ref q167, .ref q175, .ref q183, .int 0, .int 0, .int 0, .int 0, .int 0]) fp_X10_53 rfl (by decide) dX10_init_191 rfl ?_
  refine XN_aload_n (a := 0) dX10_init_194 rfl rfl rfl ?_
  refine XN_iconst (w := 1) dX10_init_195 ki_1 rfl ?_
  refine XN_putI (i := 0) (fs := [.null, .ref q7, .ref q15, .ref q23, .ref q121, .ref q129, .ref q135, .ref q146, .ref q159, .ref q167, .ref q175, .ref q183, .int 0, .int 12, .int 0, .int 0, .int 0]) fp_X10_57 rfl (by decide) dX10_init_196 rfl ?_
  refine XN_aload_n (a := 0) dX10_init_199 rfl rfl rfl ?_
  refine XN_aload_n (a := 1) dX10_init_200 rfl rfl rfl ?_
  refine XN_putF (i := 0) (fs := [.null, .ref q7, .ref q15, .ref q23, .ref q121, .ref q129, .ref q135, .ref q146, .ref q159, .ref q167, .ref q175, .ref q183, .int 0, .int 12, .int 0, .int 0, .int 1]) ff_X10_60 rfl rfl (by decide) rfl rfl dX10_init_201 rfl ?_
  exact XN_vret rfl ⟨fun i => ([q7, q15, q23, q121, q129, q135, (u139 0), (u139 1), q146, (u150 0), (u150 1), (u150 2), (u150 3), (u150 4), (u150 5), (u150 6), q159, q167, q175, q183] : List Nat).getD i 0, upd (upd (upd (upd (upd (upd (upd (upd (upd (upd (upd (upd (upd (upd (upd (upd (fun _ => 0) (Int32.toNatClampNeg 0) 9) (Int32.toNatClampNeg 1) 9) (Int32.toNatClampNeg 2) 9) (Int32.toNatClampNeg 3) 9) (Int32.toNatClampNeg 4) 9) (Int32.toNatClampNeg 5) 9) (Int32.toNatClampNeg 6) 9) (Int32.toNatClampNeg 7) 9) (Int32.toNatClampNeg 8) 9) (Int32.toNatClampNeg 9) 9) (Int32.toNatClampNeg 10) 9) (Int32.toNatClampNeg 11) 9) (Int32.toNatClampNeg 12) 9) (Int32.toNatClampNeg 13) 9) (Int32.toNatClampNeg 14) 9) (Int32.toNatClampNeg 15) 9, rfl, (by decide +kernel)⟩ (by decide) (by decide) dX10_init_204
def W_X5_init (K : Nat → ClassId) (a : Nat) (vt : Nat) (u : Nat → Nat) (g0 : Nat → Option Nat) : va_W := [(a, .inr (5, [.ref vt, .ref (u 0), .ref (u 16), .int 0, .int 0, .ref (u 17), .int 0, .int 0, .int 0, .int 0, .int 0])), ((u 0), .inl (K 2, 5, .inr (.inr (.inr (.inr (g0)))))), ((u 1), .inr (3, [.ref (u 2), .ref (u 3), .int 0, .int 0])), ((u 2), .inl (K 0, 6, .inl (fun _ => 0))), ((u 3), .inl (K 0, 6, .inl (fun _ => 0))), ((u 4), .inr (3, [.ref (u 5), .ref (u 6), .int 0, .int 0])), ((u 5), .inl (K 0, 6, .inl (fun _ => 0))), ((u 6), .inl (K 0, 6, .inl (fun _ => 0))), ((u 7), .inr (3, [.ref (u 8), .ref (u 9), .int 0, .int 0])), ((u 8), .inl (K 0, 6, .inl (fun _ => 0))), ((u 9), .inl (K 0, 6, .inl (fun _ => 0))), ((u 10), .inr (3, [.ref (u 11), .ref (u 12), .int 0, .int 0])), ((u 11), .inl (K 0, 6, .inl (fun _ => 0))), ((u 12), .inl (K 0, 6, .inl (fun _ => 0))), ((u 13), .inr (3, [.ref (u 14), .ref (u 15), .int 0, .int 0])), ((u 14), .inl (K 0, 6, .inl (fun _ => 0))), ((u 15), .inl (K 0, 6, .inl (fun _ => 0))), ((u 16), .inl (K 0, 4, .inl (fun _ => 0))), ((u 17), .inl (K 0, 4, .inl (fun _ => 0)))]
set_option maxRecDepth 100000 in
set_option maxHeartbeats 4000000 in
theorem n_X5_init (l : Launch) (D : va_G) (K : Nat → ClassId) (a : Nat) (vt : Nat) : CtN l D K miX5_init 2 18 93 [.ref a, .ref vt] [(a, .inr (5, [.null, .null, .null, .int 0, .int 0, .null, .int 0, .int 0, .int 0, .int 0, .int 0]))] (fun w => ∃ (u : Nat → Nat) (g0 : Nat → Option Nat), w = W_X5_init K a vt u g0 ∧ (g0 0 = some (u 1) ∧ g0 1 = some (u 4) ∧ g0 2 = some (u 7) ∧ g0 3 = some (u 10) ∧ g0 4 = some (u 13))) := by
  refine CtN_of (pn_X5) (Nat.le_of_ble_eq_true rfl) (fun sz => ?_)
  refine XN_lv [0, 1] (lv' := [(0, .ref a), (1, .ref vt)]) rfl ?_
  refine XN_aload_n (a := 0) dX5_init_0 rfl rfl rfl ?_
  refine XN_objInit of_X5_3 (by decide) (by decide) dX5_init_1 rfl ?_
  refine XN_aload_n (a := 0) dX5_init_4 rfl rfl rfl ?_
  refine XN_iconst (w := 5) dX5_init_5 ki_5 rfl ?_
  refine XN_newq (N := 5) (t := 2) (E := RX3) rfl (Or.inl rfl) (by decide) (by decide) (by decide) (by decide) (by decide) t_355 dX5_init_6 rfl (fun q6 => ?_)
  refine XN_dup dX5_init_9 rfl rfl ?_
  refine XN_iconst (w := 0) dX5_init_10 ki_0 rfl ?_
  refine XN_new nf_X5_9 (by decide) (by decide) dX5_init_11 rfl (fun q11 => ?_)
  refine XN_dup dX5_init_14 rfl rfl ?_
  refine XN_callI (st := [.ref q11, .int 0, .ref q6, .ref q6, .ref a]) (av := []) rfl cn_X5_11 (n_X3_init l D K q11) (by decide) rfl rfl (Nat.le_of_ble_eq_true rfl) (by decide) (by decide) dX5_init_15 rfl (fun w15 hw15 => ?_)
  obtain ⟨u15, rfl⟩ := hw15
  refine XN_astq (i := 1) (i2 := 2) (n := 5) (t := 2) (E := RX3) (f := fun _ => none) (ci := 3) (fs := [.ref (u15 0), .ref (u15 1), .int 0, .int 0]) rfl rfl rfl rfl (Or.inl rfl) (by unfold vp_in; decide) dX5_init_18 rfl ?_
  refine XN_dup dX5_init_19 rfl rfl ?_
  refine XN_iconst (w := 1) dX5_init_20 ki_1 rfl ?_
  refine XN_new nf_X5_9 (by decide) (by decide) dX5_init_21 rfl (fun q21 => ?_)
  refine XN_dup dX5_init_24 rfl rfl ?_
  refine XN_callI (st := [.ref q21, .int 1, .ref q6, .ref q6, .ref a]) (av := []) rfl cn_X5_11 (n_X3_init l D K q21) (by decide) rfl rfl (Nat.le_of_ble_eq_true rfl) (by decide) (by decide) dX5_init_25 rfl (fun w25 hw25 => ?_)
  obtain ⟨u25, rfl⟩ := hw25
  refine XN_astq (i := 1) (i2 := 5) (n := 5) (t := 2) (E := RX3) (f := va_up (fun _ => none) (Int32.toNatClampNeg 0) (some q11)) (ci := 3) (fs := [.ref (u25 0), .ref (u25 1), .int 0, .int 0]) rfl rfl rfl rfl (Or.inl rfl) (by unfold vp_in; decide) dX5_init_28 rfl ?_
  refine XN_dup dX5_init_29 rfl rfl ?_
  refine XN_iconst (w := 2) dX5_init_30 ki_2 rfl ?_
  refine XN_new nf_X5_9 (by decide) (by decide) dX5_init_31 rfl (fun q31 => ?_)
  refine XN_dup dX5_init_34 rfl rfl ?_
  refine XN_callI (st := [.ref q31, .int 2, .ref q6, .ref q6, .ref a]) (av := []) rfl cn_X5_11 (n_X3_init l D K q31) (by decide) rfl rfl (Nat.le_of_ble_eq_true rfl) (by decide) (by decide) dX5_init_35 rfl (fun w35 hw35 => ?_)
  obtain ⟨u35, rfl⟩ := hw35
  refine XN_astq (i := 1) (i2 := 8) (n := 5) (t := 2) (E := RX3) (f := va_up (va_up (fun _ => none) (Int32.toNatClampNeg 0) (some q11)) (Int32.toNatClampNeg 1) (some q21)) (ci := 3) (fs := [.ref (u35 0), .ref (u35 1), .int 0, .int 0]) rfl rfl rfl rfl (Or.inl rfl) (by unfold vp_in; decide) dX5_init_38 rfl ?_
  refine XN_dup dX5_init_39 rfl rfl ?_
  refine XN_iconst (w := 3) dX5_init_40 ki_3 rfl ?_
  refine XN_new nf_X5_9 (by decide) (by decide) dX5_init_41 rfl (fun q41 => ?_)
  refine XN_dup dX5_init_44 rfl rfl ?_
  refine XN_callI (st := [.ref q41, .int 3, .ref q6, .ref q6, .ref a]) (av := []) rfl cn_X5_11 (n_X3_init l D K q41) (by decide) rfl rfl (Nat.le_of_ble_eq_true rfl) (by decide) (by decide) dX5_init_45 rfl (fun w45 hw45 => ?_)
  obtain ⟨u45, rfl⟩ := hw45
  refine XN_astq (i := 1) (i2 := 11) (n := 5) (t := 2) (E := RX3) (f := va_up (va_up (va_up (fun _ => none) (Int32.toNatClampNeg 0) (some q11)) (Int32.toNatClampNeg 1) (some q21)) (Int32.toNatClampNeg 2) (some q31)) (ci := 3) (fs := [.ref (u45 0), .ref (u45 1), .int 0, .int 0]) rfl rfl rfl rfl (Or.inl rfl) (by unfold vp_in; decide) dX5_init_48 rfl ?_
  refine XN_dup dX5_init_49 rfl rfl ?_
  refine XN_iconst (w := 4) dX5_init_50 ki_4 rfl ?_
  refine XN_new nf_X5_9 (by decide) (by decide) dX5_init_51 rfl (fun q51 => ?_)
  refine XN_dup dX5_init_54 rfl rfl ?_
  refine XN_callI (st := [.ref q51, .int 4, .ref q6, .ref q6, .ref a]) (av := []) rfl cn_X5_11 (n_X3_init l D K q51) (by decide) rfl rfl (Nat.le_of_ble_eq_true rfl) (by decide) (by decide) dX5_init_55 rfl (fun w55 hw55 => ?_)
  obtain ⟨u55, rfl⟩ := hw55
  refine XN_astq (i := 1) (i2 := 14) (n := 5) (t := 2) (E := RX3) (f := va_up (va_up (va_up (va_up (fun _ => none) (Int32.toNatClampNeg 0) (some q11)) (Int32.toNatClampNeg 1) (some q21)) (Int32.toNatClampNeg 2) (some q31)) (Int32.toNatClampNeg 3) (some q41)) (ci := 3) (fs := [.ref (u55 0), .ref (u55 1), .int 0, .int 0]) rfl rfl rfl rfl (Or.inl rfl) (by unfold vp_in; decide) dX5_init_58 rfl ?_
  refine XN_putF (i := 0) (fs := [.null, .null, .null, .int 0, .int 0, .null, .int 0, .int 0, .int 0, .int 0, .int 0]) ff_X5_12 rfl rfl (by decide) rfl rfl dX5_init_59 rfl ?_
  refine XN_aload_n (a := 0) dX5_init_62 rfl rfl rfl ?_
  refine XN_iconst (w := 4) dX5_init_63 ki_4 rfl ?_
  refine XN_newi (N := 4) (by decide) (by decide) (by decide) (by decide) (by decide) t_149 dX5_init_64 rfl (fun q64 => ?_)
  refine XN_putF (i := 0) (fs := [.null, .ref q6, .null, .int 0, .int 0, .null, .int 0, .int 0, .int 0, .int 0, .int 0]) ff_X5_18 rfl rfl (by decide) rfl rfl dX5_init_66 rfl ?_
  refine XN_aload_n (a := 0) dX5_init_69 rfl rfl rfl ?_
  refine XN_iconst (w := 4) dX5_init_70 ki_4 rfl ?_
  refine XN_newi (N := 4) (by decide) (by decide) (by decide) (by decide) (by decide) t_149 dX5_init_71 rfl (fun q71 => ?_)
  refine XN_putF (i := 0) (fs := [.null, .ref q6, .ref q64, .int 0, .int 0, .null, .int 0, .int 0, .int 0, .int 0, .int 0]) ff_X5_22 rfl rfl (by decide) rfl rfl dX5_init_73 rfl ?_
  refine XN_aload_n (a := 0) dX5_init_76 rfl rfl rfl ?_
  refine XN_aload_n (a := 1) dX5_init_77 rfl rfl rfl ?_
  refine XN_putF (i := 0) (fs := [.null, .ref q6, .ref q64, .int 0, .int 0, .ref q71, .int 0, .int 0, .int 0, .int 0, .int 0]) ff_X5_25 rfl rfl (by decide) rfl rfl dX5_init_78 rfl ?_
  exact XN_vret rfl ⟨fun i => ([q6, q11, (u15 0), (u15 1), q21, (u25 0), (u25 1), q31, (u35 0), (u35 1), q41, (u45 0), (u45 1), q51, (u55 0), (u55 1), q64, q71] : List Nat).getD i 0, va_up (va_up (va_up (va_up (va_up (fun _ => none) (Int32.toNatClampNeg 0) (some q11)) (Int32.toNatClampNeg 1) (some q21)) (Int32.toNatClampNeg 2) (some q31)) (Int32.toNatClampNeg 3) (some q41)) (Int32.toNatClampNeg 4) (some q51), rfl, ⟨rfl, rfl, rfl, rfl, rfl⟩⟩ (by decide) (by decide) dX5_init_81
def W_X11_init (K : Nat → ClassId) (a : Nat) (u : Nat → Nat) (g0 : Nat → Int32) (g1 : Nat → Option Nat) (g2 : Nat → Int32) (g3 : Nat → Option Nat) (g4 : Nat → Int32) (g5 : Nat → Int32) (g6 : Nat → Option Nat) : va_W := [(a, .inr (11, [.ref (u 32), .ref (u 53), .int 0, .ref (u 0), .ref (u 74), .ref (u 3), .ref (u 5), .int 0, .ref (u 6), .ref (u 14), .int 0, .ref (u 15), .ref (u 16), .ref (u 17), .ref (u 22), .ref (u 23), .ref (u 24)])), ((u 0), .inr (3, [.ref (u 1), .ref (u 2), .int 0, .int 0])), ((u 1), .inl (K 0, 6, .inl (fun _ => 0))), ((u 2), .inl (K 0, 6, .inl (fun _ => 0))), ((u 3), .inr (7, [.ref (u 4), .int 0, .int 0, .int 0, .int 0])), ((u 4), .inl (K 0, 30, .inl (fun _ => 0))), ((u 5), .inl (K 1, 200, .inl (fun _ => 0))), ((u 6), .inr (6, [.int 0, .ref (u 7), .ref (u 8), .ref (u 9), .ref (u 10), .int 0, .ref (u 11), .ref (u 12), .ref (u 13), .int 0, .int 0])), ((u 7), .inl (K 0, 8, .inl (fun _ => 0))), ((u 8), .inl (K 0, 8, .inl (fun _ => 0))), ((u 9), .inl (K 0, 9, .inl (fun _ => 0))), ((u 10), .inl (K 0, 200, .inl (fun _ => 0))), ((u 11), .inl (K 0, 5, .inl (fun _ => 0))), ((u 12), .inl (K 0, 201, .inl (fun _ => 0))), ((u 13), .inl (K 0, 201, .inl (fun _ => 0))), ((u 14), .inl (K 0, 12, .inl (fun _ => 0))), ((u 15), .inl (K 0, 4, .inl (g0))), ((u 16), .inl (K 0, 4, .inl (fun _ => 0))), ((u 17), .inl (K 4, 4, .inr (.inr (.inr (.inr (g1)))))), ((u 18), .inl (K 0, 40, .inl (fun _ => 0))), ((u 19), .inl (K 0, 40, .inl (fun _ => 0))), ((u 20), .inl (K 0, 40, .inl (fun _ => 0))), ((u 21), .inl (K 0, 40, .inl (fun _ => 0))), ((u 22), .inl (K 0, 4, .inl (g2))), ((u 23), .inl (K 0, 4, .inl (fun _ => 0))), ((u 24), .inl (K 0, 4, .inl (fun _ => 0))), ((u 25), .inl (K 3, 6, .inr (.inr (.inr (.inr (g3)))))), ((u 26), .inr (0, [])), ((u 27), .inr (9, [])), ((u 28), .inr (8, [])), ((u 29), .inr (1, [])), ((u 30), .inr (4, [])), ((u 31), .inr (2, [])), ((u 32), .inr (10, [.ref (u 25), .ref (u 33), .ref (u 34), .ref (u 35), .ref (u 36), .ref (u 37), .ref (u 38), .ref (u 41), .ref (u 49), .ref (u 50), .ref (u 51), .ref (u 52), .int 0, .int 12, .int 0, .int 0, .int 1])), ((u 33), .inl (K 0, 6, .inl (fun _ => 0))), ((u 34), .inl (K 0, 6, .inl (fun _ => 0))), ((u 35), .inl (K 0, 16, .inl (g4))), ((u 36), .inl (K 0, 6, .inl (fun _ => 0))), ((u 37), .inl (K 0, 6, .inl (fun _ => 0))), ((u 38), .inr (3, [.ref (u 39), .ref (u 40), .int 0, .int 0])), ((u 39), .inl (K 0, 6, .inl (fun _ => 0))), ((u 40), .inl (K 0, 6, .inl (fun _ => 0))), ((u 41), .inr (6, [.int 0, .ref (u 42), .ref (u 43), .ref (u 44), .ref (u 45), .int 0, .ref (u 46), .ref (u 47), .ref (u 48), .int 0, .int 0])), ((u 42), .inl (K 0, 8, .inl (fun _ => 0))), ((u 43), .inl (K 0, 8, .inl (fun _ => 0))), ((u 44), .inl (K 0, 9, .inl (fun _ => 0))), ((u 45), .inl (K 0, 200, .inl (fun _ => 0))), ((u 46), .inl (K 0, 5, .inl (fun _ => 0))), ((u 47), .inl (K 0, 201, .inl (fun _ => 0))), ((u 48), .inl (K 0, 201, .inl (fun _ => 0))), ((u 49), .inl (K 0, 6, .inl (fun _ => 0))), ((u 50), .inl (K 0, 6, .inl (fun _ => 0))), ((u 51), .inl (K 0, 6, .inl (fun _ => 0))), ((u 52), .inl (K 0, 6, .inl (fun _ => 0))), ((u 53), .inr (10, [.ref (u 25), .ref (u 54), .ref (u 55), .ref (u 56), .ref (u 57), .ref (u 58), .ref (u 59), .ref (u 62), .ref (u 70), .ref (u 71), .ref (u 72), .ref (u 73), .int 0, .int 12, .int 0, .int 0, .int 1])), ((u 54), .inl (K 0, 6, .inl (fun _ => 0))), ((u 55), .inl (K 0, 6, .inl (fun _ => 0))), ((u 56), .inl (K 0, 16, .inl (g5))), ((u 57), .inl (K 0, 6, .inl (fun _ => 0))), ((u 58), .inl (K 0, 6, .inl (fun _ => 0))), ((u 59), .inr (3, [.ref (u 60), .ref (u 61), .int 0, .int 0])), ((u 60), .inl (K 0, 6, .inl (fun _ => 0))), ((u 61), .inl (K 0, 6, .inl (fun _ => 0))), ((u 62), .inr (6, [.int 0, .ref (u 63), .ref (u 64), .ref (u 65), .ref (u 66), .int 0, .ref (u 67), .ref (u 68), .ref (u 69), .int 0, .int 0])), ((u 63), .inl (K 0, 8, .inl (fun _ => 0))), ((u 64), .inl (K 0, 8, .inl (fun _ => 0))), ((u 65), .inl (K 0, 9, .inl (fun _ => 0))), ((u 66), .inl (K 0, 200, .inl (fun _ => 0))), ((u 67), .inl (K 0, 5, .inl (fun _ => 0))), ((u 68), .inl (K 0, 201, .inl (fun _ => 0))), ((u 69), .inl (K 0, 201, .inl (fun _ => 0))), ((u 70), .inl (K 0, 6, .inl (fun _ => 0))), ((u 71), .inl (K 0, 6, .inl (fun _ => 0))), ((u 72), .inl (K 0, 6, .inl (fun _ => 0))), ((u 73), .inl (K 0, 6, .inl (fun _ => 0))), ((u 74), .inr (5, [.ref (u 32), .ref (u 75), .ref (u 91), .int 0, .int 0, .ref (u 92), .int 0, .int 0, .int 0, .int 0, .int 0])), ((u 75), .inl (K 2, 5, .inr (.inr (.inr (.inr (g6)))))), ((u 76), .inr (3, [.ref (u 77), .ref (u 78), .int 0, .int 0])), ((u 77), .inl (K 0, 6, .inl (fun _ => 0))), ((u 78), .inl (K 0, 6, .inl (fun _ => 0))), ((u 79), .inr (3, [.ref (u 80), .ref (u 81), .int 0, .int 0])), ((u 80), .inl (K 0, 6, .inl (fun _ => 0))), ((u 81), .inl (K 0, 6, .inl (fun _ => 0))), ((u 82), .inr (3, [.ref (u 83), .ref (u 84), .int 0, .int 0])), ((u 83), .inl (K 0, 6, .inl (fun _ => 0))), ((u 84), .inl (K 0, 6, .inl (fun _ => 0))), ((u 85), .inr (3, [.ref (u 86), .ref (u 87), .int 0, .int 0])), ((u 86), .inl (K 0, 6, .inl (fun _ => 0))), ((u 87), .inl (K 0, 6, .inl (fun _ => 0))), ((u 88), .inr (3, [.ref (u 89), .ref (u 90), .int 0, .int 0])), ((u 89), .inl (K 0, 6, .inl (fun _ => 0))), ((u 90), .inl (K 0, 6, .inl (fun _ => 0))), ((u 91), .inl (K 0, 4, .inl (fun _ => 0))), ((u 92), .inl (K 0, 4, .inl (fun _ => 0)))]
set_option maxRecDepth 100000 in
set_option maxHeartbeats 4000000 in
theorem n_X11_init (l : Launch) (D : va_G) (K : Nat → ClassId) (a : Nat) : CtN l D K miX11_init 4 93 2680 [.ref a] [(a, .inr (11, [.null, .null, .int 0, .null, .null, .null, .null, .int 0, .null, .null, .int 0, .null, .null, .null, .null, .null, .null]))] (fun w => ∃ (u : Nat → Nat) (g0 : Nat → Int32) (g1 : Nat → Option Nat) (g2 : Nat → Int32) (g3 : Nat → Option Nat) (g4 : Nat → Int32) (g5 : Nat → Int32) (g6 : Nat → Option Nat), w = W_X11_init K a u g0 g1 g2 g3 g4 g5 g6 ∧ (∀ j, j < 4 → g0 j = (-1)) ∧ (g1 0 = some (u 18) ∧ g1 1 = some (u 19) ∧ g1 2 = some (u 20) ∧ g1 3 = some (u 21)) ∧ (∀ j, j < 4 → g2 j = 2) ∧ (g3 0 = some (u 26) ∧ g3 1 = some (u 27) ∧ g3 2 = some (u 28) ∧ g3 3 = some (u 29) ∧ g3 4 = some (u 30) ∧ g3 5 = some (u 31)) ∧ (∀ j, j < 16 → g4 j = 9) ∧ (∀ j, j < 16 → g5 j = 9) ∧ (g6 0 = some (u 76) ∧ g6 1 = some (u 79) ∧ g6 2 = some (u 82) ∧ g6 3 = some (u 85) ∧ g6 4 = some (u 88))) := by
  refine CtN_of (pn_X11) (Nat.le_of_ble_eq_true rfl) (fun sz => ?_)
  refine XN_lv [0] (lv' := [(0, .ref a)]) rfl ?_
  refine XN_aload_n (a := 0) dX11_init_0 rfl rfl rfl ?_
  refine XN_objInit of_X11_1 (by decide) (by decide) dX11_init_1 rfl ?_
  refine XN_aload_n (a := 0) dX11_init_4 rfl rfl rfl ?_
  refine XN_new nf_X11_7 (by decide) (by decide) dX11_init_5 rfl (fun q5 => ?_)
  refine XN_dup dX11_init_8 rfl rfl ?_
  refine XN_callI (st := [.ref q5, .ref a]) (av := []) rfl cn_X11_9 (n_X3_init l D K q5) (by decide) rfl rfl (Nat.le_of_ble_eq_true rfl) (by decide) (by decide) dX11_init_9 rfl (fun w9 hw9 => ?_)
  obtain ⟨u9, rfl⟩ := hw9
  refine XN_putF (i := 0) (fs := [.null, .null, .int 0, .null, .null, .null, .null, .int 0, .null, .null, .int 0, .null, .null, .null, .null, .null, .null]) ff_X11_10 rfl rfl (by decide) rfl rfl dX11_init_12 rfl ?_
  refine XN_aload_n (a := 0) dX11_init_15 rfl rfl rfl ?_
  refine XN_new nf_X11_16 (by decide) (by decide) dX11_init_16 rfl (fun q16 => ?_)
  refine XN_dup dX11_init_19 rfl rfl ?_
  refine XN_callI (st := [.ref q16, .ref a]) (av := []) rfl cn_X11_18 (n_X7_init l D K q16) (by decide) rfl rfl (Nat.le_of_ble_eq_true rfl) (by decide) (by decide) dX11_init_20 rfl (fun w20 hw20 => ?_)
  obtain ⟨u20, rfl⟩ := hw20
  refine XN_putF (i := 0) (fs := [.null, .null, .int 0, .ref q5, .null, .null, .null, .int 0, .null, .null, .int 0, .null, .null, .null, .null, .null, .null]) ff_X11_19 rfl rfl (by decide) rfl rfl dX11_init_23 rfl ?_
  refine XN_aload_n (a := 0) dX11_init_26 rfl rfl rfl ?_
  refine XN_sipush (w := 200) dX11_init_27 ks_200 rfl ?_
  refine XN_newb (N := 200) (by decide) (by decide) (by decide) (by decide) (by decide) t_221 dX11_init_30 rfl (fun q30 => ?_)
  refine XN_putF (i := 0) (fs := [.null, .null, .int 0, .ref q5, .null, .ref q16, .null, .int 0, .null, .null, .int 0, .null, .null, .null, .null, .null, .null]) ff_X11_23 rfl rfl (by decide) rfl rfl dX11_init_32 rfl ?_
  refine XN_aload_n (a := 0) dX11_init_35 rfl rfl rfl ?_
  refine XN_new nf_X11_27 (by decide) (by decide) dX11_init_36 rfl (fun q36 => ?_)
  refine XN_dup dX11_init_39 rfl rfl ?_
  refine XN_callI (st := [.ref q36, .ref a]) (av := []) rfl cn_X11_29 (n_X6_init l D K q36) (by decide) rfl rfl (Nat.le_of_ble_eq_true rfl) (by decide) (by decide) dX11_init_40 rfl (fun w40 hw40 => ?_)
  obtain ⟨u40, rfl⟩ := hw40
  refine XN_putF (i := 0) (fs := [.null, .null, .int 0, .ref q5, .null, .ref q16, .ref q30, .int 0, .null, .null, .int 0, .null, .null, .null, .null, .null, .null]) ff_X11_30 rfl rfl (by decide) rfl rfl dX11_init_43 rfl ?_
  refine XN_aload_n (a := 0) dX11_init_46 rfl rfl rfl ?_
  refine XN_bipush (w := 12) dX11_init_47 kb_12 rfl ?_
  refine XN_newi (N := 12) (by decide) (by decide) (by decide) (by decide) (by decide) t_149 dX11_init_49 rfl (fun q49 => ?_)
  refine XN_putF (i := 0) (fs := [.null, .null, .int 0, .ref q5, .null, .ref q16, .ref q30, .int 0, .ref q36, .null, .int 0, .null, .null, .null, .null, .null, .null]) ff_X11_34 rfl rfl (by decide) rfl rfl dX11_init_51 rfl ?_
  refine XN_aload_n (a := 0) dX11_init_54 rfl rfl rfl ?_
  refine XN_iconst (w := 4) dX11_init_55 ki_4 rfl ?_
  refine XN_newi (N := 4) (by decide) (by decide) (by decide) (by decide) (by decide) t_149 dX11_init_56 rfl (fun q56 => ?_)
  refine XN_dup dX11_init_58 rfl rfl ?_
  refine XN_iconst (w := 0) dX11_init_59 ki_0 rfl ?_
  refine XN_iconst (w := (-1)) dX11_init_60 ki_m1 rfl ?_
  refine XN_iast (i := 16) (n := 4) (f := fun _ => 0) rfl (by unfold vp_in; decide) dX11_init_61 rfl ?_
  refine XN_dup dX11_init_62 rfl rfl ?_
  refine XN_iconst (w := 1) dX11_init_63 ki_1 rfl ?_
  refine XN_iconst (w := (-1)) dX11_init_64 ki_m1 rfl ?_
  refine XN_iast (i := 16) (n := 4) (f := upd (fun _ => 0) (Int32.toNatClampNeg 0) (-1)) rfl (by unfold vp_in; decide) dX11_init_65 rfl ?_
  refine XN_dup dX11_init_66 rfl rfl ?_
  refine XN_iconst (w := 2) dX11_init_67 ki_2 rfl ?_
  refine XN_iconst (w := (-1)) dX11_init_68 ki_m1 rfl ?_
  refine XN_iast (i := 16) (n := 4) (f := upd (upd (fun _ => 0) (Int32.toNatClampNeg 0) (-1)) (Int32.toNatClampNeg 1) (-1)) rfl (by unfold vp_in; decide) dX11_init_69 rfl ?_
  refine XN_dup dX11_init_70 rfl rfl ?_
  refine XN_iconst (w := 3) dX11_init_71 ki_3 rfl ?_
  refine XN_iconst (w := (-1)) dX11_init_72 ki_m1 rfl ?_
  refine XN_iast (i := 16) (n := 4) (f := upd (upd (upd (fun _ => 0) (Int32.toNatClampNeg 0) (-1)) (Int32.toNatClampNeg 1) (-1)) (Int32.toNatClampNeg 2) (-1)) rfl (by unfold vp_in; decide) dX11_init_73 rfl ?_
  refine XN_putF (i := 0) (fs := [.null, .null, .int 0, .ref q5, .null, .ref q16, .ref q30, .int 0, .ref q36, .ref q49, .int 0, .null, .null, .null, .null, .null, .null]) ff_X11_38 rfl rfl (by decide) rfl rfl dX11_init_74 rfl ?_
  refine XN_aload_n (a := 0) dX11_init_77 rfl rfl rfl ?_
  refine XN_iconst (w := 4) dX11_init_78 ki_4 rfl ?_
  refine XN_newi (N := 4) (by decide) (by decide) (by decide) (by decide) (by decide) t_149 dX11_init_79 rfl (fun q79 => ?_)
  refine XN_putF (i := 0) (fs := [.null, .null, .int 0, .ref q5, .null, .ref q16, .ref q30, .int 0, .ref q36, .ref q49, .int 0, .ref q56, .null, .null, .null, .null, .null]) ff_X11_41 rfl rfl (by decide) rfl rfl dX11_init_81 rfl ?_
  refine XN_aload_n (a := 0) dX11_init_84 rfl rfl rfl ?_
  refine XN_iconst (w := 4) dX11_init_85 ki_4 rfl ?_
  refine XN_bipush (w := 40) dX11_init_86 kb_40 rfl ?_
  refine XN_mna (N := 4) (M := 40) (by decide) (by decide) (by decide) (by decide) (by decide) (by decide) (by decide) (by decide) t_222 t_149 dX11_init_88 rfl (fun q88 r88 => ?_)
  refine XN_putF (i := 0) (fs := [.null, .null, .int 0, .ref q5, .null, .ref q16, .ref q30, .int 0, .ref q36, .ref q49, .int 0, .ref q56, .ref q79, .null, .null, .null, .null]) ff_X11_46 rfl rfl (by decide) rfl rfl dX11_init_92 rfl ?_
  refine XN_aload_n (a := 0) dX11_init_95 rfl rfl rfl ?_
  refine XN_iconst (w := 4) dX11_init_96 ki_4 rfl ?_
  refine XN_newi (N := 4) (by decide) (by decide) (by decide) (by decide) (by decide) t_149 dX11_init_97 rfl (fun q97 => ?_)
  refine XN_dup dX11_init_99 rfl rfl ?_
  refine XN_iconst (w := 0) dX11_init_100 ki_0 rfl ?_
  refine XN_iconst (w := 2) dX11_init_101 ki_2 rfl ?_
  refine XN_iast (i := 23) (n := 4) (f := fun _ => 0) rfl (by unfold vp_in; decide) dX11_init_102 rfl ?_
  refine XN_dup dX11_init_103 rfl rfl ?_
  refine XN_iconst (w := 1) dX11_init_104 ki_1 rfl ?_
  refine XN_iconst (w := 2) dX11_init_105 ki_2 rfl ?_
  refine XN_iast (i := 23) (n := 4) (f := upd (fun _ => 0) (Int32.toNatClampNeg 0) 2) rfl (by unfold vp_in; decide) dX11_init_106 rfl ?_
  refine XN_dup dX11_init_107 rfl rfl ?_
  refine XN_iconst (w := 2) dX11_init_108 ki_2 rfl ?_
  refine XN_iconst (w := 2) dX11_init_109 ki_2 rfl ?_
  refine XN_iast (i := 23) (n := 4) (f := upd (upd (fun _ => 0) (Int32.toNatClampNeg 0) 2) (Int32.toNatClampNeg 1) 2) rfl (by unfold vp_in; decide) dX11_init_110 rfl ?_
  refine XN_dup dX11_init_111 rfl rfl ?_
  refine XN_iconst (w := 3) dX11_init_112 ki_3 rfl ?_
  refine XN_iconst (w := 2) dX11_init_113 ki_2 rfl ?_
  refine XN_iast (i := 23) (n := 4) (f := upd (upd (upd (fun _ => 0) (Int32.toNatClampNeg 0) 2) (Int32.toNatClampNeg 1) 2) (Int32.toNatClampNeg 2) 2) rfl (by unfold vp_in; decide) dX11_init_114 rfl ?_
  refine XN_putF (i := 0) (fs := [.null, .null, .int 0, .ref q5, .null, .ref q16, .ref q30, .int 0, .ref q36, .ref q49, .int 0, .ref q56, .ref q79, .ref q88, .null, .null, .null]) ff_X11_49 rfl rfl (by decide) rfl rfl dX11_init_115 rfl ?_
  refine XN_aload_n (a := 0) dX11_init_118 rfl rfl rfl ?_
  refine XN_iconst (w := 4) dX11_init_119 ki_4 rfl ?_
  refine XN_newi (N := 4) (by decide) (by decide) (by decide) (by decide) (by decide) t_149 dX11_init_120 rfl (fun q120 => ?_)
  refine XN_putF (i := 0) (fs := [.null, .null, .int 0, .ref q5, .null, .ref q16, .ref q30, .int 0, .ref q36, .ref q49, .int 0, .ref q56, .ref q79, .ref q88, .ref q97, .null, .null]) ff_X11_52 rfl rfl (by decide) rfl rfl dX11_init_122 rfl ?_
  refine XN_aload_n (a := 0) dX11_init_125 rfl rfl rfl ?_
  refine XN_iconst (w := 4) dX11_init_126 ki_4 rfl ?_
  refine XN_newi (N := 4) (by decide) (by decide) (by decide) (by decide) (by decide) t_149 dX11_init_127 rfl (fun q127 => ?_)
  refine XN_putF (i := 0) (fs := [.null, .null, .int 0, .ref q5, .null, .ref q16, .ref q30, .int 0, .ref q36, .ref q49, .int 0, .ref q56, .ref q79, .ref q88, .ref q97, .ref q120, .null]) ff_X11_55 rfl rfl (by decide) rfl rfl dX11_init_129 rfl ?_
  refine XN_bipush (w := 6) dX11_init_132 kb_6 rfl ?_
  refine XN_newq (N := 6) (t := 3) (E := RX0) rfl (Or.inr rfl) (by decide) (by decide) (by decide) (by decide) (by decide) t_224 dX11_init_134 rfl (fun q134 => ?_)
  refine XN_dup dX11_init_137 rfl rfl ?_
  refine XN_iconst (w := 0) dX11_init_138 ki_0 rfl ?_
  refine XN_new nf_X11_58 (by decide) (by decide) dX11_init_139 rfl (fun q139 => ?_)
  refine XN_dup dX11_init_142 rfl rfl ?_
  refine XN_callI (st := [.ref q139, .int 0, .ref q134, .ref q134]) (av := []) rfl cn_X11_60 (n_X0_init l D K q139 0) (by decide) rfl rfl (Nat.le_of_ble_eq_true rfl) (by decide) (by decide) dX11_init_143 rfl (fun w143 hw143 => ?_)
  subst hw143
  refine XN_astq (i := 26) (i2 := 27) (n := 6) (t := 3) (E := RX0) (f := fun _ => none) (ci := 0) (fs := []) rfl rfl rfl rfl (Or.inl rfl) (by unfold vp_in; decide) dX11_init_146 rfl ?_
  refine XN_dup dX11_init_147 rfl rfl ?_
  refine XN_iconst (w := 1) dX11_init_148 ki_1 rfl ?_
  refine XN_new nf_X11_61 (by decide) (by decide) dX11_init_149 rfl (fun q149 => ?_)
  refine XN_dup dX11_init_152 rfl rfl ?_
  refine XN_callI (st := [.ref q149, .int 1, .ref q134, .ref q134]) (av := []) rfl cn_X11_63 (n_X9_init l D K q149 9) (by decide) rfl rfl (Nat.le_of_ble_eq_true rfl) (by decide) (by decide) dX11_init_153 rfl (fun w153 hw153 => ?_)
  subst hw153
  refine XN_astq (i := 26) (i2 := 28) (n := 6) (t := 3) (E := RX0) (f := va_up (fun _ => none) (Int32.toNatClampNeg 0) (some q139)) (ci := 9) (fs := []) rfl rfl rfl rfl (Or.inr (by decide +kernel)) (by unfold vp_in; decide) dX11_init_156 rfl ?_
  refine XN_dup dX11_init_157 rfl rfl ?_
  refine XN_iconst (w := 2) dX11_init_158 ki_2 rfl ?_
  refine XN_new nf_X11_64 (by decide) (by decide) dX11_init_159 rfl (fun q159 => ?_)
  refine XN_dup dX11_init_162 rfl rfl ?_
  refine XN_callI (st := [.ref q159, .int 2, .ref q134, .ref q134]) (av := []) rfl cn_X11_66 (n_X8_init l D K q159 8) (by decide) rfl rfl (Nat.le_of_ble_eq_true rfl) (by decide) (by decide) dX11_init_163 rfl (fun w163 hw163 => ?_)
  subst hw163
  refine XN_astq (i := 26) (i2 := 29) (n := 6) (t := 3) (E := RX0) (f := va_up (va_up (fun _ => none) (Int32.toNatClampNeg 0) (some q139)) (Int32.toNatClampNeg 1) (some q149)) (ci := 8) (fs := []) rfl rfl rfl rfl (Or.inr (by decide +kernel)) (by unfold vp_in; decide) dX11_init_166 rfl ?_
  refine XN_dup dX11_init_167 rfl rfl ?_
  refine XN_iconst (w := 3) dX11_init_168 ki_3 rfl ?_
  refine XN_new nf_X11_67 (by decide) (by decide) dX11_init_169 rfl (fun q169 => ?_)
  refine XN_dup dX11_init_172 rfl rfl ?_
  refine XN_callI (st := [.ref q169, .int 3, .ref q134, .ref q134]) (av := []) rfl cn_X11_69 (n_X1_init l D K q169 1) (by decide) rfl rfl (Nat.le_of_ble_eq_true rfl) (by decide) (by decide) dX11_init_173 rfl (fun w173 hw173 => ?_)
  subst hw173
  refine XN_astq (i := 26) (i2 := 30) (n := 6) (t := 3) (E := RX0) (f := va_up (va_up (va_up (fun _ => none) (Int32.toNatClampNeg 0) (some q139)) (Int32.toNatClampNeg 1) (some q149)) (Int32.toNatClampNeg 2) (some q159)) (ci := 1) (fs := []) rfl rfl rfl rfl (Or.inr (by decide +kernel)) (by unfold vp_in; decide) dX11_init_176 rfl ?_
  refine XN_dup dX11_init_177 rfl rfl ?_
  refine XN_iconst (w := 4) dX11_init_178 ki_4 rfl ?_
  refine XN_new nf_X11_70 (by decide) (by decide) dX11_init_179 rfl (fun q179 => ?_)
  refine XN_dup dX11_init_182 rfl rfl ?_
  refine XN_callI (st := [.ref q179, .int 4, .ref q134, .ref q134]) (av := []) rfl cn_X11_72 (n_X4_init l D K q179 4) (by decide) rfl rfl (Nat.le_of_ble_eq_true rfl) (by decide) (by decide) dX11_init_183 rfl (fun w183 hw183 => ?_)
  subst hw183
  refine XN_astq (i := 26) (i2 := 31) (n := 6) (t := 3) (E := RX0) (f := va_up (va_up (va_up (va_up (fun _ => none) (Int32.toNatClampNeg 0) (some q139)) (Int32.toNatClampNeg 1) (some q149)) (Int32.toNatClampNeg 2) (some q159)) (Int32.toNatClampNeg 3) (some q169)) (ci := 4) (fs := []) rfl rfl rfl rfl (Or.inr (by decide +kernel)) (by unfold vp_in; decide) dX11_init_186 rfl ?_
  refine XN_dup dX11_init_187 rfl rfl ?_
  refine XN_iconst (w := 5) dX11_init_188 ki_5 rfl ?_
  refine XN_new nf_X11_73 (by decide) (by decide) dX11_init_189 rfl (fun q189 => ?_)
  refine XN_dup dX11_init_192 rfl rfl ?_
  refine XN_callI (st := [.ref q189, .int 5, .ref q134, .ref q134]) (av := []) rfl cn_X11_75 (n_X2_init l D K q189 2) (by decide) rfl rfl (Nat.le_of_ble_eq_true rfl) (by decide) (by decide) dX11_init_193 rfl (fun w193 hw193 => ?_)
  subst hw193
  refine XN_astq (i := 26) (i2 := 32) (n := 6) (t := 3) (E := RX0) (f := va_up (va_up (va_up (va_up (va_up (fun _ => none) (Int32.toNatClampNeg 0) (some q139)) (Int32.toNatClampNeg 1) (some q149)) (Int32.toNatClampNeg 2) (some q159)) (Int32.toNatClampNeg 3) (some q169)) (Int32.toNatClampNeg 4) (some q179)) (ci := 2) (fs := []) rfl rfl rfl rfl (Or.inr (by decide +kernel)) (by unfold vp_in; decide) dX11_init_196 rfl ?_
  refine XN_astore_n (lv2 := [(1, .ref q134), (0, .ref a)]) dX11_init_197 rfl (by decide) rfl rfl ?_
  refine XN_aload_n (a := 1) dX11_init_198 rfl rfl rfl ?_
  refine XN_new nf_X11_76 (by decide) (by decide) dX11_init_199 rfl (fun q199 => ?_)
  refine XN_dup dX11_init_202 rfl rfl ?_
  refine XN_aload_n (a := 0) dX11_init_203 rfl rfl rfl ?_
  refine XN_callI (st := [.ref q199, .ref a]) (av := [.ref q134]) rfl cn_X11_78 (n_X10_init l D K q199 q134) (by decide) rfl rfl (Nat.le_of_ble_eq_true rfl) (by decide) (by decide) dX11_init_204 rfl (fun w204 hw204 => ?_)
  obtain ⟨u204, g0_204, rfl, pg0_204⟩ := hw204
  refine XN_putF (i := 0) (fs := [.null, .null, .int 0, .ref q5, .null, .ref q16, .ref q30, .int 0, .ref q36, .ref q49, .int 0, .ref q56, .ref q79, .ref q88, .ref q97, .ref q120, .ref q127]) ff_X11_81 rfl rfl (by decide) rfl rfl dX11_init_207 rfl ?_
  refine XN_aload_n (a := 1) dX11_init_210 rfl rfl rfl ?_
  refine XN_new nf_X11_76 (by decide) (by decide) dX11_init_211 rfl (fun q211 => ?_)
  refine XN_dup dX11_init_214 rfl rfl ?_
  refine XN_aload_n (a := 0) dX11_init_215 rfl rfl rfl ?_
  refine XN_callI (st := [.ref q211, .ref a]) (av := [.ref q134]) rfl cn_X11_78 (n_X10_init l D K q211 q134) (by decide) rfl rfl (Nat.le_of_ble_eq_true rfl) (by decide) (by decide) dX11_init_216 rfl (fun w216 hw216 => ?_)
  obtain ⟨u216, g0_216, rfl, pg0_216⟩ := hw216
  refine XN_putF (i := 0) (fs := [.ref q199, .null, .int 0, .ref q5, .null, .ref q16, .ref q30, .int 0, .ref q36, .ref q49, .int 0, .ref q56, .ref q79, .ref q88, .ref q97, .ref q120, .ref q127]) ff_X11_85 rfl rfl (by decide) rfl rfl dX11_init_219 rfl ?_
  refine XN_aload_n (a := 1) dX11_init_222 rfl rfl rfl ?_
  refine XN_new nf_X11_88 (by decide) (by decide) dX11_init_223 rfl (fun q223 => ?_)
  refine XN_dup dX11_init_226 rfl rfl ?_
  refine XN_aload_n (a := 1) dX11_init_227 rfl rfl rfl ?_
  refine XN_get (i := 0) (fs := [.ref q199, .ref q211, .int 0, .ref q5, .null, .ref q16, .ref q30, .int 0, .ref q36, .ref q49, .int 0, .ref q56, .ref q79, .ref q88, .ref q97, .ref q120, .ref q127]) (v := .ref q199) fl_X11_81 rfl rfl dX11_init_228 rfl ?_
  refine XN_callI (st := [.ref q223, .ref a]) (av := [.ref q199]) rfl cn_X11_90 (n_X5_init l D K q223 q199) (by decide) rfl rfl (Nat.le_of_ble_eq_true rfl) (by decide) (by decide) dX11_init_231 rfl (fun w231 hw231 => ?_)
  obtain ⟨u231, g0_231, rfl, pg0_231⟩ := hw231
  refine XN_putF (i := 0) (fs := [.ref q199, .ref q211, .int 0, .ref q5, .null, .ref q16, .ref q30, .int 0, .ref q36, .ref q49, .int 0, .ref q56, .ref q79, .ref q88, .ref q97, .ref q120, .ref q127]) ff_X11_93 rfl rfl (by decide) rfl rfl dX11_init_234 rfl ?_
  exact XN_vret rfl ⟨fun i => ([q5, (u9 0), (u9 1), q16, (u20 0), q30, q36, (u40 0), (u40 1), (u40 2), (u40 3), (u40 4), (u40 5), (u40 6), q49, q56, q79, q88, (r88 0), (r88 1), (r88 2), (r88 3), q97, q120, q127, q134, q139, q149, q159, q169, q179, q189, q199, (u204 0), (u204 1), (u204 2), (u204 3), (u204 4), (u204 5), (u204 6), (u204 7), (u204 8), (u204 9), (u204 10), (u204 11), (u204 12), (u204 13), (u204 14), (u204 15), (u204 16), (u204 17), (u204 18), (u204 19), q211, (u216 0), (u216 1), (u216 2), (u216 3), (u216 4), (u216 5), (u216 6), (u216 7), (u216 8), (u216 9), (u216 10), (u216 11), (u216 12), (u216 13), (u216 14), (u216 15), (u216 16), (u216 17), (u216 18), (u216 19), q223, (u231 0), (u231 1), (u231 2), (u231 3), (u231 4), (u231 5), (u231 6), (u231 7), (u231 8), (u231 9), (u231 10), (u231 11), (u231 12), (u231 13), (u231 14), (u231 15), (u231 16), (u231 17)] : List Nat).getD i 0, upd (upd (upd (upd (fun _ => 0) (Int32.toNatClampNeg 0) (-1)) (Int32.toNatClampNeg 1) (-1)) (Int32.toNatClampNeg 2) (-1)) (Int32.toNatClampNeg 3) (-1), fun i => if i < 4 then some (r88 i) else none, upd (upd (upd (upd (fun _ => 0) (Int32.toNatClampNeg 0) 2) (Int32.toNatClampNeg 1) 2) (Int32.toNatClampNeg 2) 2) (Int32.toNatClampNeg 3) 2, va_up (va_up (va_up (va_up (va_up (va_up (fun _ => none) (Int32.toNatClampNeg 0) (some q139)) (Int32.toNatClampNeg 1) (some q149)) (Int32.toNatClampNeg 2) (some q159)) (Int32.toNatClampNeg 3) (some q169)) (Int32.toNatClampNeg 4) (some q179)) (Int32.toNatClampNeg 5) (some q189), g0_204, g0_216, g0_231, rfl, (by decide +kernel), ⟨rfl, rfl, rfl, rfl⟩, (by decide +kernel), ⟨rfl, rfl, rfl, rfl, rfl, rfl⟩, pg0_204, pg0_216, pg0_231⟩ (by decide) (by decide) dX11_init_237
