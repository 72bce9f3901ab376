abbrev miX0_init : Mi := (yX0_init, cX0_init, 1, none)
abbrev miX9_init : Mi := (yX9_init, cX9_init, 1, none)
abbrev miX8_init : Mi := (yX8_init, cX8_init, 1, none)
abbrev miX4_init : Mi := (yX4_init, cX4_init, 1, none)
abbrev miX1_init : Mi := (yX1_init, cX1_init, 1, none)
abbrev miX2_init : Mi := (yX2_init, cX2_init, 1, none)
abbrev miX3_init : Mi := (yX3_init, cX3_init, 1, none)
abbrev miX6_init : Mi := (yX6_init, cX6_init, 1, none)
abbrev miX7_init : Mi := (yX7_init, cX7_init, 1, none)
abbrev miX10_init : Mi := (yX10_init, cX10_init, 2, none)
abbrev miX5_init : Mi := (yX5_init, cX5_init, 2, none)
abbrev miX11_init : Mi := (yX11_init, cX11_init, 2, none)
abbrev miX12_init : Mi := (yX12_init, cX12_init, 2, none)
set_option maxRecDepth 100000 in
theorem t_114 : Cond.methodLink RX11 1 Lib.objectInit ∈ tb := tb_of 114 (by decide +kernel) (by decide +kernel)
set_option maxRecDepth 100000 in
theorem t_115 : Cond.instanceMethod Lib.objectInit ∈ tb := tb_of 115 (by decide +kernel) (by decide +kernel)
set_option maxRecDepth 100000 in
theorem t_116 : Cond.code Lib.objectInit ⟨#[0xb1]⟩ 1 none ∈ tb := tb_of 116 (by decide +kernel) (by decide +kernel)
set_option maxRecDepth 100000 in
theorem t_117 : Cond.classLink RX11 7 RX3 ∈ tb := tb_of 117 (by decide +kernel) (by decide +kernel)
set_option maxRecDepth 100000 in
theorem t_118 : Cond.instantiable RX3 4 ∈ tb := tb_of 118 (by decide +kernel) (by decide +kernel)
set_option maxRecDepth 100000 in
theorem t_120 : Cond.instanceMethod yX3_init ∈ tb := tb_of 120 (by decide +kernel) (by decide +kernel)
set_option maxRecDepth 100000 in
theorem t_121 : Cond.code yX3_init cX3_init 1 none ∈ tb := tb_of 121 (by decide +kernel) (by decide +kernel)
set_option maxRecDepth 100000 in
theorem t_122 : Cond.methodLink RX3 3 Lib.objectInit ∈ tb := tb_of 122 (by decide +kernel) (by decide +kernel)
set_option maxRecDepth 100000 in
theorem t_149 : Cond.arrayClass .int ∈ tb := tb_of 149 (by decide +kernel) (by decide +kernel)
set_option maxRecDepth 100000 in
theorem t_150 : Cond.classLink RX11 16 RX7 ∈ tb := tb_of 150 (by decide +kernel) (by decide +kernel)
set_option maxRecDepth 100000 in
theorem t_151 : Cond.instantiable RX7 5 ∈ tb := tb_of 151 (by decide +kernel) (by decide +kernel)
set_option maxRecDepth 100000 in
theorem t_153 : Cond.instanceMethod yX7_init ∈ tb := tb_of 153 (by decide +kernel) (by decide +kernel)
set_option maxRecDepth 100000 in
theorem t_154 : Cond.code yX7_init cX7_init 1 none ∈ tb := tb_of 154 (by decide +kernel) (by decide +kernel)
set_option maxRecDepth 100000 in
theorem t_155 : Cond.methodLink RX7 3 Lib.objectInit ∈ tb := tb_of 155 (by decide +kernel) (by decide +kernel)
set_option maxRecDepth 100000 in
theorem t_180 : Cond.classLink RX11 27 RX6 ∈ tb := tb_of 180 (by decide +kernel) (by decide +kernel)
set_option maxRecDepth 100000 in
theorem t_181 : Cond.instantiable RX6 11 ∈ tb := tb_of 181 (by decide +kernel) (by decide +kernel)
set_option maxRecDepth 100000 in
theorem t_183 : Cond.instanceMethod yX6_init ∈ tb := tb_of 183 (by decide +kernel) (by decide +kernel)
set_option maxRecDepth 100000 in
theorem t_184 : Cond.code yX6_init cX6_init 1 none ∈ tb := tb_of 184 (by decide +kernel) (by decide +kernel)
set_option maxRecDepth 100000 in
theorem t_185 : Cond.methodLink RX6 3 Lib.objectInit ∈ tb := tb_of 185 (by decide +kernel) (by decide +kernel)
set_option maxRecDepth 100000 in
theorem t_221 : Cond.arrayClass .byte ∈ tb := tb_of 221 (by decide +kernel) (by decide +kernel)
set_option maxRecDepth 100000 in
theorem t_222 : Cond.classLink RX11 44 ("[" ++ (FieldType.array .int).toString) ∈ tb := tb_of 222 (by decide +kernel) (by decide +kernel)
set_option maxRecDepth 100000 in
theorem t_224 : Cond.classLink RX11 58 RX0 ∈ tb := tb_of 224 (by decide +kernel) (by decide +kernel)
set_option maxRecDepth 100000 in
theorem t_226 : Cond.instantiable RX0 0 ∈ tb := tb_of 226 (by decide +kernel) (by decide +kernel)
set_option maxRecDepth 100000 in
theorem t_228 : Cond.instanceMethod yX0_init ∈ tb := tb_of 228 (by decide +kernel) (by decide +kernel)
set_option maxRecDepth 100000 in
theorem t_229 : Cond.code yX0_init cX0_init 1 none ∈ tb := tb_of 229 (by decide +kernel) (by decide +kernel)
set_option maxRecDepth 100000 in
theorem t_230 : Cond.methodLink RX0 1 Lib.objectInit ∈ tb := tb_of 230 (by decide +kernel) (by decide +kernel)
set_option maxRecDepth 100000 in
theorem t_232 : Cond.classLink RX11 61 RX9 ∈ tb := tb_of 232 (by decide +kernel) (by decide +kernel)
set_option maxRecDepth 100000 in
theorem t_233 : Cond.instantiable RX9 0 ∈ tb := tb_of 233 (by decide +kernel) (by decide +kernel)
set_option maxRecDepth 100000 in
theorem t_235 : Cond.instanceMethod yX9_init ∈ tb := tb_of 235 (by decide +kernel) (by decide +kernel)
set_option maxRecDepth 100000 in
theorem t_236 : Cond.code yX9_init cX9_init 1 none ∈ tb := tb_of 236 (by decide +kernel) (by decide +kernel)
set_option maxRecDepth 100000 in
theorem t_239 : Cond.classLink RX11 64 RX8 ∈ tb := tb_of 239 (by decide +kernel) (by decide +kernel)
set_option maxRecDepth 100000 in
theorem t_240 : Cond.instantiable RX8 0 ∈ tb := tb_of 240 (by decide +kernel) (by decide +kernel)
set_option maxRecDepth 100000 in
theorem t_242 : Cond.instanceMethod yX8_init ∈ tb := tb_of 242 (by decide +kernel) (by decide +kernel)
set_option maxRecDepth 100000 in
theorem t_243 : Cond.code yX8_init cX8_init 1 none ∈ tb := tb_of 243 (by decide +kernel) (by decide +kernel)
set_option maxRecDepth 100000 in
theorem t_246 : Cond.classLink RX11 67 RX1 ∈ tb := tb_of 246 (by decide +kernel) (by decide +kernel)
set_option maxRecDepth 100000 in
theorem t_247 : Cond.instantiable RX1 0 ∈ tb := tb_of 247 (by decide +kernel) (by decide +kernel)
set_option maxRecDepth 100000 in
theorem t_249 : Cond.instanceMethod yX1_init ∈ tb := tb_of 249 (by decide +kernel) (by decide +kernel)
set_option maxRecDepth 100000 in
theorem t_250 : Cond.code yX1_init cX1_init 1 none ∈ tb := tb_of 250 (by decide +kernel) (by decide +kernel)
set_option maxRecDepth 100000 in
theorem t_253 : Cond.classLink RX11 70 RX4 ∈ tb := tb_of 253 (by decide +kernel) (by decide +kernel)
set_option maxRecDepth 100000 in
theorem t_254 : Cond.instantiable RX4 0 ∈ tb := tb_of 254 (by decide +kernel) (by decide +kernel)
set_option maxRecDepth 100000 in
theorem t_256 : Cond.instanceMethod yX4_init ∈ tb := tb_of 256 (by decide +kernel) (by decide +kernel)
set_option maxRecDepth 100000 in
theorem t_257 : Cond.code yX4_init cX4_init 1 none ∈ tb := tb_of 257 (by decide +kernel) (by decide +kernel)
set_option maxRecDepth 100000 in
theorem t_260 : Cond.classLink RX11 73 RX2 ∈ tb := tb_of 260 (by decide +kernel) (by decide +kernel)
set_option maxRecDepth 100000 in
theorem t_261 : Cond.instantiable RX2 0 ∈ tb := tb_of 261 (by decide +kernel) (by decide +kernel)
set_option maxRecDepth 100000 in
theorem t_263 : Cond.instanceMethod yX2_init ∈ tb := tb_of 263 (by decide +kernel) (by decide +kernel)
set_option maxRecDepth 100000 in
theorem t_264 : Cond.code yX2_init cX2_init 1 none ∈ tb := tb_of 264 (by decide +kernel) (by decide +kernel)
set_option maxRecDepth 100000 in
theorem t_267 : Cond.classLink RX11 76 RX10 ∈ tb := tb_of 267 (by decide +kernel) (by decide +kernel)
set_option maxRecDepth 100000 in
theorem t_268 : Cond.instantiable RX10 17 ∈ tb := tb_of 268 (by decide +kernel) (by decide +kernel)
set_option maxRecDepth 100000 in
theorem t_269 : Cond.methodLink RX11 78 yX10_init ∈ tb := tb_of 269 (by decide +kernel) (by decide +kernel)
set_option maxRecDepth 100000 in
theorem t_270 : Cond.instanceMethod yX10_init ∈ tb := tb_of 270 (by decide +kernel) (by decide +kernel)
set_option maxRecDepth 100000 in
theorem t_271 : Cond.code yX10_init cX10_init 2 none ∈ tb := tb_of 271 (by decide +kernel) (by decide +kernel)
set_option maxRecDepth 100000 in
theorem t_272 : Cond.methodLink RX10 3 Lib.objectInit ∈ tb := tb_of 272 (by decide +kernel) (by decide +kernel)
set_option maxRecDepth 100000 in
theorem t_273 : Cond.classLink RX10 27 RX3 ∈ tb := tb_of 273 (by decide +kernel) (by decide +kernel)
set_option maxRecDepth 100000 in
theorem t_275 : Cond.classLink RX10 34 RX6 ∈ tb := tb_of 275 (by decide +kernel) (by decide +kernel)
set_option maxRecDepth 100000 in
theorem t_349 : Cond.classLink RX11 88 RX5 ∈ tb := tb_of 349 (by decide +kernel) (by decide +kernel)
set_option maxRecDepth 100000 in
theorem t_350 : Cond.instantiable RX5 11 ∈ tb := tb_of 350 (by decide +kernel) (by decide +kernel)
set_option maxRecDepth 100000 in
theorem t_351 : Cond.methodLink RX11 90 yX5_init ∈ tb := tb_of 351 (by decide +kernel) (by decide +kernel)
set_option maxRecDepth 100000 in
theorem t_352 : Cond.instanceMethod yX5_init ∈ tb := tb_of 352 (by decide +kernel) (by decide +kernel)
set_option maxRecDepth 100000 in
theorem t_353 : Cond.code yX5_init cX5_init 2 none ∈ tb := tb_of 353 (by decide +kernel) (by decide +kernel)
set_option maxRecDepth 100000 in
theorem t_354 : Cond.methodLink RX5 3 Lib.objectInit ∈ tb := tb_of 354 (by decide +kernel) (by decide +kernel)
set_option maxRecDepth 100000 in
theorem t_355 : Cond.classLink RX5 9 RX3 ∈ tb := tb_of 355 (by decide +kernel) (by decide +kernel)
set_option maxRecDepth 100000 in
theorem of_X0_1 : Of RX0 1 := ⟨t_230, t_115, t_116⟩
set_option maxRecDepth 100000 in
theorem cn_X9_1 : Cn RX9 1 miX0_init 0 := ⟨rfl, rfl, Or.inr ⟨"FloodCellar", List.mem_of_getElem? (i := 5) rfl⟩, t_228, t_93, t_229, ⟨by decide +kernel, by decide +kernel, by decide +kernel⟩, by decide⟩
set_option maxRecDepth 100000 in
theorem cn_X8_1 : Cn RX8 1 miX0_init 0 := ⟨rfl, rfl, Or.inr ⟨"FloodCellar", List.mem_of_getElem? (i := 7) rfl⟩, t_228, t_93, t_229, ⟨by decide +kernel, by decide +kernel, by decide +kernel⟩, by decide⟩
set_option maxRecDepth 100000 in
theorem cn_X4_1 : Cn RX4 1 miX0_init 0 := ⟨rfl, rfl, Or.inr ⟨"FloodCellar", List.mem_of_getElem? (i := 11) rfl⟩, t_228, t_93, t_229, ⟨by decide +kernel, by decide +kernel, by decide +kernel⟩, by decide⟩
set_option maxRecDepth 100000 in
theorem cn_X1_1 : Cn RX1 1 miX8_init 0 := ⟨rfl, rfl, Or.inr ⟨"FloodCellar", List.mem_of_getElem? (i := 9) rfl⟩, t_242, t_95, t_243, ⟨by decide +kernel, by decide +kernel, by decide +kernel⟩, by decide⟩
set_option maxRecDepth 100000 in
theorem cn_X2_1 : Cn RX2 1 miX4_init 0 := ⟨rfl, rfl, Or.inr ⟨"FloodCellar", List.mem_of_getElem? (i := 13) rfl⟩, t_256, t_97, t_257, ⟨by decide +kernel, by decide +kernel, by decide +kernel⟩, by decide⟩
set_option maxRecDepth 100000 in
theorem of_X3_3 : Of RX3 3 := ⟨t_122, t_115, t_116⟩
set_option maxRecDepth 100000 in
theorem ff_X3_9 : Ff RX3 9 3 0 (.array .int) := ⟨RX3, TX3, 4, tyX3, rfl, by decide, inT3, t_123, tyX3_ok, nmX3, rfl, rfl, by decide +kernel⟩
set_option maxRecDepth 100000 in
theorem ff_X3_15 : Ff RX3 15 3 1 (.array .int) := ⟨RX3, TX3, 4, tyX3, rfl, by decide, inT3, t_127, tyX3_ok, nmX3, rfl, rfl, by decide +kernel⟩
set_option maxRecDepth 100000 in
theorem of_X6_3 : Of RX6 3 := ⟨t_185, t_115, t_116⟩
set_option maxRecDepth 100000 in
theorem ff_X6_9 : Ff RX6 9 6 1 (.array .int) := ⟨RX6, TX6, 11, tyX6, rfl, by decide, inT6, t_188, tyX6_ok, nmX6, rfl, rfl, by decide +kernel⟩
set_option maxRecDepth 100000 in
theorem ff_X6_15 : Ff RX6 15 6 2 (.array .int) := ⟨RX6, TX6, 11, tyX6, rfl, by decide, inT6, t_189, tyX6_ok, nmX6, rfl, rfl, by decide +kernel⟩
set_option maxRecDepth 100000 in
theorem ff_X6_18 : Ff RX6 18 6 3 (.array .int) := ⟨RX6, TX6, 11, tyX6, rfl, by decide, inT6, t_190, tyX6_ok, nmX6, rfl, rfl, by decide +kernel⟩
set_option maxRecDepth 100000 in
theorem ff_X6_21 : Ff RX6 21 6 4 (.array .int) := ⟨RX6, TX6, 11, tyX6, rfl, by decide, inT6, t_191, tyX6_ok, nmX6, rfl, rfl, by decide +kernel⟩
set_option maxRecDepth 100000 in
theorem ff_X6_24 : Ff RX6 24 6 6 (.array .int) := ⟨RX6, TX6, 11, tyX6, rfl, by decide, inT6, t_193, tyX6_ok, nmX6, rfl, rfl, by decide +kernel⟩
set_option maxRecDepth 100000 in
theorem ks_201 : (Int16.ofInt (201)).toInt32 = 201 := by decide
set_option maxRecDepth 100000 in
theorem ff_X6_27 : Ff RX6 27 6 7 (.array .int) := ⟨RX6, TX6, 11, tyX6, rfl, by decide, inT6, t_194, tyX6_ok, nmX6, rfl, rfl, by decide +kernel⟩
set_option maxRecDepth 100000 in
theorem ff_X6_30 : Ff RX6 30 6 8 (.array .int) := ⟨RX6, TX6, 11, tyX6, rfl, by decide, inT6, t_195, tyX6_ok, nmX6, rfl, rfl, by decide +kernel⟩
set_option maxRecDepth 100000 in
theorem of_X7_3 : Of RX7 3 := ⟨t_155, t_115, t_116⟩
set_option maxRecDepth 100000 in
theorem ff_X7_9 : Ff RX7 9 7 0 (.array .int) := ⟨RX7, TX7, 5, tyX7, rfl, by decide, inT7, t_156, tyX7_ok, nmX7, rfl, rfl, by decide +kernel⟩
set_option maxRecDepth 100000 in
theorem of_X10_3 : Of RX10 3 := ⟨t_272, t_115, t_116⟩
set_option maxRecDepth 100000 in
theorem ff_X10_9 : Ff RX10 9 10 1 (.array .int) := ⟨RX10, TX10, 17, tyX10, rfl, by decide, inT10, t_279, tyX10_ok, nmX10, rfl, rfl, by decide +kernel⟩
set_option maxRecDepth 100000 in
theorem ff_X10_15 : Ff RX10 15 10 2 (.array .int) := ⟨RX10, TX10, 17, tyX10, rfl, by decide, inT10, t_281, tyX10_ok, nmX10, rfl, rfl, by decide +kernel⟩
set_option maxRecDepth 100000 in
theorem ff_X10_18 : Ff RX10 18 10 3 (.array .int) := ⟨RX10, TX10, 17, tyX10, rfl, by decide, inT10, t_283, tyX10_ok, nmX10, rfl, rfl, by decide +kernel⟩
set_option maxRecDepth 100000 in
theorem ff_X10_21 : Ff RX10 21 10 4 (.array .int) := ⟨RX10, TX10, 17, tyX10, rfl, by decide, inT10, t_285, tyX10_ok, nmX10, rfl, rfl, by decide +kernel⟩
set_option maxRecDepth 100000 in
theorem ff_X10_24 : Ff RX10 24 10 5 (.array .int) := ⟨RX10, TX10, 17, tyX10, rfl, by decide, inT10, t_287, tyX10_ok, nmX10, rfl, rfl, by decide +kernel⟩
set_option maxRecDepth 100000 in
theorem nf_X10_27 : Nf RX10 27 3 [.null, .null, .int 0, .int 0] := ⟨RX3, TX3, 4, tyX3, rfl, inT3, tyX3_ok, t_273, t_118, t_90, by decide +kernel, rfl⟩
set_option maxRecDepth 100000 in
theorem cn_X10_29 : Cn RX10 29 miX3_init 0 := ⟨rfl, rfl, Or.inr ⟨"FloodCellar", List.mem_of_getElem? (i := 14) rfl⟩, t_120, t_90, t_121, ⟨by decide +kernel, by decide +kernel, by decide +kernel⟩, by decide⟩
set_option maxRecDepth 100000 in
theorem ff_X10_30 : Ff RX10 30 10 6 (.object "FloodCellar$Flood") := ⟨RX10, TX10, 17, tyX10, rfl, by decide, inT10, t_289, tyX10_ok, nmX10, rfl, rfl, by decide +kernel⟩
set_option maxRecDepth 100000 in
theorem nf_X10_34 : Nf RX10 34 6 [.int 0, .null, .null, .null, .null, .int 0, .null, .null, .null, .int 0, .int 0] := ⟨RX6, TX6, 11, tyX6, rfl, inT6, tyX6_ok, t_275, t_181, t_92, by decide +kernel, rfl⟩
set_option maxRecDepth 100000 in
theorem cn_X10_36 : Cn RX10 36 miX6_init 0 := ⟨rfl, rfl, Or.inr ⟨"FloodCellar", List.mem_of_getElem? (i := 15) rfl⟩, t_183, t_92, t_184, ⟨by decide +kernel, by decide +kernel, by decide +kernel⟩, by decide⟩
set_option maxRecDepth 100000 in
theorem ff_X10_37 : Ff RX10 37 10 7 (.object "FloodCellar$Rules") := ⟨RX10, TX10, 17, tyX10, rfl, by decide, inT10, t_292, tyX10_ok, nmX10, rfl, rfl, by decide +kernel⟩
set_option maxRecDepth 100000 in
theorem ff_X10_41 : Ff RX10 41 10 8 (.array .int) := ⟨RX10, TX10, 17, tyX10, rfl, by decide, inT10, t_294, tyX10_ok, nmX10, rfl, rfl, by decide +kernel⟩
set_option maxRecDepth 100000 in
theorem ff_X10_44 : Ff RX10 44 10 9 (.array .int) := ⟨RX10, TX10, 17, tyX10, rfl, by decide, inT10, t_296, tyX10_ok, nmX10, rfl, rfl, by decide +kernel⟩
set_option maxRecDepth 100000 in
theorem ff_X10_47 : Ff RX10 47 10 10 (.array .int) := ⟨RX10, TX10, 17, tyX10, rfl, by decide, inT10, t_298, tyX10_ok, nmX10, rfl, rfl, by decide +kernel⟩
set_option maxRecDepth 100000 in
theorem ff_X10_50 : Ff RX10 50 10 11 (.array .int) := ⟨RX10, TX10, 17, tyX10, rfl, by decide, inT10, t_300, tyX10_ok, nmX10, rfl, rfl, by decide +kernel⟩
set_option maxRecDepth 100000 in
theorem ff_X10_60 : Ff RX10 60 10 0 (.array (.object "FloodCellar$Barrel")) := ⟨RX10, TX10, 17, tyX10, rfl, by decide, inT10, t_277, tyX10_ok, nmX10, rfl, rfl, by decide +kernel⟩
set_option maxRecDepth 100000 in
theorem of_X5_3 : Of RX5 3 := ⟨t_354, t_115, t_116⟩
set_option maxRecDepth 100000 in
theorem nf_X5_9 : Nf RX5 9 3 [.null, .null, .int 0, .int 0] := ⟨RX3, TX3, 4, tyX3, rfl, inT3, tyX3_ok, t_355, t_118, t_90, by decide +kernel, rfl⟩
set_option maxRecDepth 100000 in
theorem cn_X5_11 : Cn RX5 11 miX3_init 0 := ⟨rfl, rfl, Or.inr ⟨"FloodCellar", List.mem_of_getElem? (i := 16) rfl⟩, t_120, t_90, t_121, ⟨by decide +kernel, by decide +kernel, by decide +kernel⟩, by decide⟩
set_option maxRecDepth 100000 in
theorem ff_X5_12 : Ff RX5 12 5 1 (.array (.object "FloodCellar$Flood")) := ⟨RX5, TX5, 11, tyX5, rfl, by decide, inT5, t_359, tyX5_ok, nmX5, rfl, rfl, by decide +kernel⟩
set_option maxRecDepth 100000 in
theorem ff_X5_18 : Ff RX5 18 5 2 (.array .int) := ⟨RX5, TX5, 11, tyX5, rfl, by decide, inT5, t_360, tyX5_ok, nmX5, rfl, rfl, by decide +kernel⟩
set_option maxRecDepth 100000 in
theorem ff_X5_22 : Ff RX5 22 5 5 (.array .int) := ⟨RX5, TX5, 11, tyX5, rfl, by decide, inT5, t_363, tyX5_ok, nmX5, rfl, rfl, by decide +kernel⟩
set_option maxRecDepth 100000 in
theorem ff_X5_25 : Ff RX5 25 5 0 (.object "FloodCellar$Vault") := ⟨RX5, TX5, 11, tyX5, rfl, by decide, inT5, t_358, tyX5_ok, nmX5, rfl, rfl, by decide +kernel⟩
set_option maxRecDepth 100000 in
theorem of_X11_1 : Of RX11 1 := ⟨t_114, t_115, t_116⟩
set_option maxRecDepth 100000 in
theorem nf_X11_7 : Nf RX11 7 3 [.null, .null, .int 0, .int 0] := ⟨RX3, TX3, 4, tyX3, rfl, inT3, tyX3_ok, t_117, t_118, t_90, by decide +kernel, rfl⟩
set_option maxRecDepth 100000 in
theorem cn_X11_9 : Cn RX11 9 miX3_init 0 := ⟨rfl, rfl, Or.inr ⟨"FloodCellar", List.mem_of_getElem? (i := 0) rfl⟩, t_120, t_90, t_121, ⟨by decide +kernel, by decide +kernel, by decide +kernel⟩, by decide⟩
set_option maxRecDepth 100000 in
theorem ff_X11_10 : Ff RX11 10 11 3 (.object "FloodCellar$Flood") := ⟨RX11, TX11, 17, tyX11, rfl, by decide, inT11, t_401, tyX11_ok, nmX11, rfl, rfl, by decide +kernel⟩
set_option maxRecDepth 100000 in
theorem nf_X11_16 : Nf RX11 16 7 [.null, .int 0, .int 0, .int 0, .int 0] := ⟨RX7, TX7, 5, tyX7, rfl, inT7, tyX7_ok, t_150, t_151, t_91, by decide +kernel, rfl⟩
set_option maxRecDepth 100000 in
theorem cn_X11_18 : Cn RX11 18 miX7_init 0 := ⟨rfl, rfl, Or.inr ⟨"FloodCellar", List.mem_of_getElem? (i := 1) rfl⟩, t_153, t_91, t_154, ⟨by decide +kernel, by decide +kernel, by decide +kernel⟩, by decide⟩
set_option maxRecDepth 100000 in
theorem ff_X11_19 : Ff RX11 19 11 5 (.object "FloodCellar$Trace") := ⟨RX11, TX11, 17, tyX11, rfl, by decide, inT11, t_403, tyX11_ok, nmX11, rfl, rfl, by decide +kernel⟩
set_option maxRecDepth 100000 in
theorem ff_X11_23 : Ff RX11 23 11 6 (.array .byte) := ⟨RX11, TX11, 17, tyX11, rfl, by decide, inT11, t_404, tyX11_ok, nmX11, rfl, rfl, by decide +kernel⟩
set_option maxRecDepth 100000 in
theorem nf_X11_27 : Nf RX11 27 6 [.int 0, .null, .null, .null, .null, .int 0, .null, .null, .null, .int 0, .int 0] := ⟨RX6, TX6, 11, tyX6, rfl, inT6, tyX6_ok, t_180, t_181, t_92, by decide +kernel, rfl⟩
set_option maxRecDepth 100000 in
theorem cn_X11_29 : Cn RX11 29 miX6_init 0 := ⟨rfl, rfl, Or.inr ⟨"FloodCellar", List.mem_of_getElem? (i := 2) rfl⟩, t_183, t_92, t_184, ⟨by decide +kernel, by decide +kernel, by decide +kernel⟩, by decide⟩
set_option maxRecDepth 100000 in
theorem ff_X11_30 : Ff RX11 30 11 8 (.object "FloodCellar$Rules") := ⟨RX11, TX11, 17, tyX11, rfl, by decide, inT11, t_406, tyX11_ok, nmX11, rfl, rfl, by decide +kernel⟩
set_option maxRecDepth 100000 in
theorem ff_X11_34 : Ff RX11 34 11 9 (.array .int) := ⟨RX11, TX11, 17, tyX11, rfl, by decide, inT11, t_407, tyX11_ok, nmX11, rfl, rfl, by decide +kernel⟩
set_option maxRecDepth 100000 in
theorem ff_X11_38 : Ff RX11 38 11 11 (.array .int) := ⟨RX11, TX11, 17, tyX11, rfl, by decide, inT11, t_409, tyX11_ok, nmX11, rfl, rfl, by decide +kernel⟩
set_option maxRecDepth 100000 in
theorem ff_X11_41 : Ff RX11 41 11 12 (.array .int) := ⟨RX11, TX11, 17, tyX11, rfl, by decide, inT11, t_410, tyX11_ok, nmX11, rfl, rfl, by decide +kernel⟩
set_option maxRecDepth 100000 in
theorem ff_X11_46 : Ff RX11 46 11 13 (.array (.array .int)) := ⟨RX11, TX11, 17, tyX11, rfl, by decide, inT11, t_411, tyX11_ok, nmX11, rfl, rfl, by decide +kernel⟩
set_option maxRecDepth 100000 in
theorem ff_X11_49 : Ff RX11 49 11 14 (.array .int) := ⟨RX11, TX11, 17, tyX11, rfl, by decide, inT11, t_412, tyX11_ok, nmX11, rfl, rfl, by decide +kernel⟩
set_option maxRecDepth 100000 in
theorem ff_X11_52 : Ff RX11 52 11 15 (.array .int) := ⟨RX11, TX11, 17, tyX11, rfl, by decide, inT11, t_413, tyX11_ok, nmX11, rfl, rfl, by decide +kernel⟩
set_option maxRecDepth 100000 in
theorem ff_X11_55 : Ff RX11 55 11 16 (.array .int) := ⟨RX11, TX11, 17, tyX11, rfl, by decide, inT11, t_414, tyX11_ok, nmX11, rfl, rfl, by decide +kernel⟩
set_option maxRecDepth 100000 in
theorem nf_X11_58 : Nf RX11 58 0 [] := ⟨RX0, TX0, 0, tyX0, rfl, inT0, tyX0_ok, t_224, t_226, t_93, by decide +kernel, rfl⟩
set_option maxRecDepth 100000 in
theorem cn_X11_60 : Cn RX11 60 miX0_init 0 := ⟨rfl, rfl, Or.inr ⟨"FloodCellar", List.mem_of_getElem? (i := 3) rfl⟩, t_228, t_93, t_229, ⟨by decide +kernel, by decide +kernel, by decide +kernel⟩, by decide⟩
set_option maxRecDepth 100000 in
theorem nf_X11_61 : Nf RX11 61 9 [] := ⟨RX9, TX9, 0, tyX9, rfl, inT9, tyX9_ok, t_232, t_233, t_94, by decide +kernel, rfl⟩
set_option maxRecDepth 100000 in
theorem cn_X11_63 : Cn RX11 63 miX9_init 0 := ⟨rfl, rfl, Or.inr ⟨"FloodCellar", List.mem_of_getElem? (i := 4) rfl⟩, t_235, t_94, t_236, ⟨by decide +kernel, by decide +kernel, by decide +kernel⟩, by decide⟩
set_option maxRecDepth 100000 in
theorem nf_X11_64 : Nf RX11 64 8 [] := ⟨RX8, TX8, 0, tyX8, rfl, inT8, tyX8_ok, t_239, t_240, t_95, by decide +kernel, rfl⟩
set_option maxRecDepth 100000 in
theorem cn_X11_66 : Cn RX11 66 miX8_init 0 := ⟨rfl, rfl, Or.inr ⟨"FloodCellar", List.mem_of_getElem? (i := 6) rfl⟩, t_242, t_95, t_243, ⟨by decide +kernel, by decide +kernel, by decide +kernel⟩, by decide⟩
set_option maxRecDepth 100000 in
theorem nf_X11_67 : Nf RX11 67 1 [] := ⟨RX1, TX1, 0, tyX1, rfl, inT1, tyX1_ok, t_246, t_247, t_96, by decide +kernel, rfl⟩
set_option maxRecDepth 100000 in
theorem cn_X11_69 : Cn RX11 69 miX1_init 0 := ⟨rfl, rfl, Or.inr ⟨"FloodCellar", List.mem_of_getElem? (i := 8) rfl⟩, t_249, t_96, t_250, ⟨by decide +kernel, by decide +kernel, by decide +kernel⟩, by decide⟩
set_option maxRecDepth 100000 in
theorem nf_X11_70 : Nf RX11 70 4 [] := ⟨RX4, TX4, 0, tyX4, rfl, inT4, tyX4_ok, t_253, t_254, t_97, by decide +kernel, rfl⟩
set_option maxRecDepth 100000 in
theorem cn_X11_72 : Cn RX11 72 miX4_init 0 := ⟨rfl, rfl, Or.inr ⟨"FloodCellar", List.mem_of_getElem? (i := 10) rfl⟩, t_256, t_97, t_257, ⟨by decide +kernel, by decide +kernel, by decide +kernel⟩, by decide⟩
set_option maxRecDepth 100000 in
theorem nf_X11_73 : Nf RX11 73 2 [] := ⟨RX2, TX2, 0, tyX2, rfl, inT2, tyX2_ok, t_260, t_261, t_98, by decide +kernel, rfl⟩
set_option maxRecDepth 100000 in
theorem cn_X11_75 : Cn RX11 75 miX2_init 0 := ⟨rfl, rfl, Or.inr ⟨"FloodCellar", List.mem_of_getElem? (i := 12) rfl⟩, t_263, t_98, t_264, ⟨by decide +kernel, by decide +kernel, by decide +kernel⟩, by decide⟩
set_option maxRecDepth 100000 in
theorem nf_X11_76 : Nf RX11 76 10 [.null, .null, .null, .null, .null, .null, .null, .null, .null, .null, .null, .null, .int 0, .int 0, .int 0, .int 0, .int 0] := ⟨RX10, TX10, 17, tyX10, rfl, inT10, tyX10_ok, t_267, t_268, t_99, by decide +kernel, rfl⟩
set_option maxRecDepth 100000 in
theorem cn_X11_78 : Cn RX11 78 miX10_init 1 := ⟨rfl, rfl, Or.inl t_269, t_270, t_99, t_271, ⟨by decide +kernel, by decide +kernel, by decide +kernel⟩, by decide⟩
set_option maxRecDepth 100000 in
theorem ff_X11_81 : Ff RX11 81 11 0 (.object "FloodCellar$Vault") := ⟨RX11, TX11, 17, tyX11, rfl, by decide, inT11, t_398, tyX11_ok, nmX11, rfl, rfl, by decide +kernel⟩
set_option maxRecDepth 100000 in
theorem ff_X11_85 : Ff RX11 85 11 1 (.object "FloodCellar$Vault") := ⟨RX11, TX11, 17, tyX11, rfl, by decide, inT11, t_399, tyX11_ok, nmX11, rfl, rfl, by decide +kernel⟩
set_option maxRecDepth 100000 in
theorem nf_X11_88 : Nf RX11 88 5 [.null, .null, .null, .int 0, .int 0, .null, .int 0, .int 0, .int 0, .int 0, .int 0] := ⟨RX5, TX5, 11, tyX5, rfl, inT5, tyX5_ok, t_349, t_350, t_100, by decide +kernel, rfl⟩
set_option maxRecDepth 100000 in
theorem cn_X11_90 : Cn RX11 90 miX5_init 1 := ⟨rfl, rfl, Or.inl t_351, t_352, t_100, t_353, ⟨by decide +kernel, by decide +kernel, by decide +kernel⟩, by decide⟩
set_option maxRecDepth 100000 in
theorem ff_X11_93 : Ff RX11 93 11 4 (.object "FloodCellar$Plans") := ⟨RX11, TX11, 17, tyX11, rfl, by decide, inT11, t_402, tyX11_ok, nmX11, rfl, rfl, by decide +kernel⟩
set_option maxRecDepth 100000 in
set_option maxHeartbeats 4000000 in
theorem n_X0_init (l : Launch) (D : va_G) (K : Nat → ClassId) (a ci : Nat) : CtN l D K miX0_init 1 0 0 [.ref a] [(a, .inr (ci, []))] (fun w => w = [(a, .inr (ci, []))]) := by
  refine CtN_of (pn_X0) (Nat.le_of_ble_eq_true rfl) (fun sz => ?_)
  refine XN_lv [0] (lv' := [(0, .ref a)]) rfl ?_
  refine XN_aload_n (a := 0) dX0_init_0 rfl rfl rfl ?_
  refine XN_objInit of_X0_1 (by decide) (by decide) dX0_init_1 rfl ?_
  exact XN_vret rfl rfl (by decide) (by decide) dX0_init_4
set_option maxRecDepth 100000 in
set_option maxHeartbeats 4000000 in
theorem n_X9_init (l : Launch) (D : va_G) (K : Nat → ClassId) (a ci : Nat) : CtN l D K miX9_init 2 0 0 [.ref a] [(a, .inr (ci, []))] (fun w => w = [(a, .inr (ci, []))]) := by
  refine CtN_of (pn_X9) (Nat.le_of_ble_eq_true rfl) (fun sz => ?_)
  refine XN_lv [0] (lv' := [(0, .ref a)]) rfl ?_
  refine XN_aload_n (a := 0) dX9_init_0 rfl rfl rfl ?_
  refine XN_ws (ws' := [] ++ [(a, .inr (ci, []))]) rfl ?_
  refine XN_callI (st := []) (av := []) rfl cn_X9_1 (n_X0_init l D K a ci) (by decide) rfl rfl (Nat.le_of_ble_eq_true rfl) (by decide) (by decide) dX9_init_1 rfl (fun w1 hw1 => ?_)
  subst hw1
  exact XN_vret rfl rfl (by decide) (by decide) dX9_init_4
set_option maxRecDepth 100000 in
set_option maxHeartbeats 4000000 in
theorem n_X8_init (l : Launch) (D : va_G) (K : Nat → ClassId) (a ci : Nat) : CtN l D K miX8_init 2 0 0 [.ref a] [(a, .inr (ci, []))] (fun w => w = [(a, .inr (ci, []))]) := by
  refine CtN_of (pn_X8) (Nat.le_of_ble_eq_true rfl) (fun sz => ?_)
  refine XN_lv [0] (lv' := [(0, .ref a)]) rfl ?_
  refine XN_aload_n (a := 0) dX8_init_0 rfl rfl rfl ?_
  refine XN_ws (ws' := [] ++ [(a, .inr (ci, []))]) rfl ?_
  refine XN_callI (st := []) (av := []) rfl cn_X8_1 (n_X0_init l D K a ci) (by decide) rfl rfl (Nat.le_of_ble_eq_true rfl) (by decide) (by decide) dX8_init_1 rfl (fun w1 hw1 => ?_)
  subst hw1
  exact XN_vret rfl rfl (by decide) (by decide) dX8_init_4
set_option maxRecDepth 100000 in
set_option maxHeartbeats 4000000 in
theorem n_X4_init (l : Launch) (D : va_G) (K : Nat → ClassId) (a ci : Nat) : CtN l D K miX4_init 2 0 0 [.ref a] [(a, .inr (ci, []))] (fun w => w = [(a, .inr (ci, []))]) := by
  refine CtN_of (pn_X4) (Nat.le_of_ble_eq_true rfl) (fun sz => ?_)
  refine XN_lv [0] (lv' := [(0, .ref a)]) rfl ?_
  refine XN_aload_n (a := 0) dX4_init_0 rfl rfl rfl ?_
  refine XN_ws (ws' := [] ++ [(a, .inr (ci, []))]) rfl ?_
  refine XN_callI (st := []) (av := []) rfl cn_X4_1 (n_X0_init l D K a ci) (by decide) rfl rfl (Nat.le_of_ble_eq_true rfl) (by decide) (by decide) dX4_init_1 rfl (fun w1 hw1 => ?_)
  subst hw1
  exact XN_vret rfl rfl (by decide) (by decide) dX4_init_4
set_option maxRecDepth 100000 in
set_option maxHeartbeats 4000000 in
theorem n_X1_init (l : Launch) (D : va_G) (K : Nat → ClassId) (a ci : Nat) : CtN l D K miX1_init 3 0 0 [.ref a] [(a, .inr (ci, []))] (fun w => w = [(a, .inr (ci, []))]) := by
  refine CtN_of (pn_X1) (Nat.le_of_ble_eq_true rfl) (fun sz => ?_)
  refine XN_lv [0] (lv' := [(0, .ref a)]) rfl ?_
  refine XN_aload_n (a := 0) dX1_init_0 rfl rfl rfl ?_
  refine XN_ws (ws' := [] ++ [(a, .inr (ci, []))]) rfl ?_
  refine XN_callI (st := []) (av := []) rfl cn_X1_1 (n_X8_init l D K a ci) (by decide) rfl rfl (Nat.le_of_ble_eq_true rfl) (by decide) (by decide) dX1_init_1 rfl (fun w1 hw1 => ?_)
  subst hw1
  exact XN_vret rfl rfl (by decide) (by decide) dX1_init_4
set_option maxRecDepth 100000 in
set_option maxHeartbeats 4000000 in
theorem n_X2_init (l : Launch) (D : va_G) (K : Nat → ClassId) (a ci : Nat) : CtN l D K miX2_init 3 0 0 [.ref a] [(a, .inr (ci, []))] (fun w => w = [(a, .inr (ci, []))]) := by
  refine CtN_of (pn_X2) (Nat.le_of_ble_eq_true rfl) (fun sz => ?_)
  refine XN_lv [0] (lv' := [(0, .ref a)]) rfl ?_
  refine XN_aload_n (a := 0) dX2_init_0 rfl rfl rfl ?_
  refine XN_ws (ws' := [] ++ [(a, .inr (ci, []))]) rfl ?_
  refine XN_callI (st := []) (av := []) rfl cn_X2_1 (n_X4_init l D K a ci) (by decide) rfl rfl (Nat.le_of_ble_eq_true rfl) (by decide) (by decide) dX2_init_1 rfl (fun w1 hw1 => ?_)
  subst hw1
  exact XN_vret rfl rfl (by decide) (by decide) dX2_init_4
def W_X3_init (K : Nat → ClassId) (a : Nat) (u : Nat → Nat) : va_W := [(a, .inr (3, [.ref (u 0), .ref (u 1), .int 0, .int 0])), ((u 0), .inl (K 0, 6, .inl (fun _ => 0))), ((u 1), .inl (K 0, 6, .inl (fun _ => 0)))]
set_option maxRecDepth 100000 in
set_option maxHeartbeats 4000000 in
theorem n_X3_init (l : Launch) (D : va_G) (K : Nat → ClassId) (a : Nat) : CtN l D K miX3_init 1 2 12 [.ref a] [(a, .inr (3, [.null, .null, .int 0, .int 0]))] (fun w => ∃ (u : Nat → Nat), w = W_X3_init K a u ) := by
  refine CtN_of (pn_X3) (Nat.le_of_ble_eq_true rfl) (fun sz => ?_)
  refine XN_lv [0] (lv' := [(0, .ref a)]) rfl ?_
  refine XN_aload_n (a := 0) dX3_init_0 rfl rfl rfl ?_
  refine XN_objInit of_X3_3 (by decide) (by decide) dX3_init_1 rfl ?_
  refine XN_aload_n (a := 0) dX3_init_4 rfl rfl rfl ?_
  refine XN_bipush (w := 6) dX3_init_5 kb_6 rfl ?_
  refine XN_newi (N := 6) (by decide) (by decide) (by decide) (by decide) (by decide) t_149 dX3_init_7 rfl (fun q7 => ?_)
  refine XN_ws (ws' := [(a, .inr (3, [.null, .null, .int 0, .int 0])), (q7, .inl (K 0, 6, .inl (fun _ => 0)))]) rfl ?_
  refine XN_putF (i := 0) (fs := [.null, .null, .int 0, .int 0]) ff_X3_9 rfl rfl (Nat.le_of_ble_eq_true rfl) rfl rfl dX3_init_9 rfl ?_
  refine XN_ws (ws' := [(a, .inr (3, [.ref q7, .null, .int 0, .int 0])), (q7, .inl (K 0, 6, .inl (fun _ => 0)))]) rfl ?_
  refine XN_aload_n (a := 0) dX3_init_12 rfl rfl rfl ?_
  refine XN_bipush (w := 6) dX3_init_13 kb_6 rfl ?_
  refine XN_newi (N := 6) (by decide) (by decide) (by decide) (by decide) (by decide) t_149 dX3_init_15 rfl (fun q15 => ?_)
  refine XN_ws (ws' := [(a, .inr (3, [.ref q7, .null, .int 0, .int 0])), (q7, .inl (K 0, 6, .inl (fun _ => 0))), (q15, .inl (K 0, 6, .inl (fun _ => 0)))]) rfl ?_
  refine XN_putF (i := 0) (fs := [.ref q7, .null, .int 0, .int 0]) ff_X3_15 rfl rfl (Nat.le_of_ble_eq_true rfl) rfl rfl dX3_init_17 rfl ?_
  refine XN_ws (ws' := [(a, .inr (3, [.ref q7, .ref q15, .int 0, .int 0])), (q7, .inl (K 0, 6, .inl (fun _ => 0))), (q15, .inl (K 0, 6, .inl (fun _ => 0)))]) rfl ?_
  exact XN_vret rfl ⟨fun i => ([q7, q15] : List Nat).getD i 0, rfl⟩ (by decide) (by decide) dX3_init_20
def W_X6_init (K : Nat → ClassId) (a : Nat) (u : Nat → Nat) : va_W := [(a, .inr (6, [.int 0, .ref (u 0), .ref (u 1), .ref (u 2), .ref (u 3), .int 0, .ref (u 4), .ref (u 5), .ref (u 6), .int 0, .int 0])), ((u 0), .inl (K 0, 8, .inl (fun _ => 0))), ((u 1), .inl (K 0, 8, .inl (fun _ => 0))), ((u 2), .inl (K 0, 9, .inl (fun _ => 0))), ((u 3), .inl (K 0, 200, .inl (fun _ => 0))), ((u 4), .inl (K 0, 5, .inl (fun _ => 0))), ((u 5), .inl (K 0, 201, .inl (fun _ => 0))), ((u 6), .inl (K 0, 201, .inl (fun _ => 0)))]
set_option maxRecDepth 100000 in
set_option maxHeartbeats 4000000 in
theorem n_X6_init (l : Launch) (D : va_G) (K : Nat → ClassId) (a : Nat) : CtN l D K miX6_init 1 7 632 [.ref a] [(a, .inr (6, [.int 0, .null, .null, .null, .null, .int 0, .null, .null, .null, .int 0, .int 0]))] (fun w => ∃ (u : Nat → Nat), w = W_X6_init K a u ) := by
  refine CtN_of (pn_X6) (Nat.le_of_ble_eq_true rfl) (fun sz => ?_)
  refine XN_lv [0] (lv' := [(0, .ref a)]) rfl ?_
  refine XN_aload_n (a := 0) dX6_init_0 rfl rfl rfl ?_
  refine XN_objInit of_X6_3 (by decide) (by decide) dX6_init_1 rfl ?_
  refine XN_aload_n (a := 0) dX6_init_4 rfl rfl rfl ?_
  refine XN_bipush (w := 8) dX6_init_5 kb_8 rfl ?_
  refine XN_newi (N := 8) (by decide) (by decide) (by decide) (by decide) (by decide) t_149 dX6_init_7 rfl (fun q7 => ?_)
  refine XN_ws (ws' := [(a, .inr (6, [.int 0, .null, .null, .null, .null, .int 0, .null, .null, .null, .int 0, .int 0])), (q7, .inl (K 0, 8, .inl (fun _ => 0)))]) rfl ?_
  refine XN_putF (i := 0) (fs := [.int 0, .null, .null, .null, .null, .int 0, .null, .null, .null, .int 0, .int 0]) ff_X6_9 rfl rfl (Nat.le_of_ble_eq_true rfl) rfl rfl dX6_init_9 rfl ?_
  refine XN_ws (ws' := [(a, .inr (6, [.int 0, .ref q7, .null, .null, .null, .int 0, .null, .null, .null, .int 0, .int 0])), (q7, .inl (K 0, 8, .inl (fun _ => 0)))]) rfl ?_
  refine XN_aload_n (a := 0) dX6_init_12 rfl rfl rfl ?_
  refine XN_bipush (w := 8) dX6_init_13 kb_8 rfl ?_
  refine XN_newi (N := 8) (by decide) (by decide) (by decide) (by decide) (by decide) t_149 dX6_init_15 rfl (fun q15 => ?_)
  refine XN_ws (ws' := [(a, .inr (6, [.int 0, .ref q7, .null, .null, .null, .int 0, .null, .null, .null, .int 0, .int 0])), (q7, .inl (K 0, 8, .inl (fun _ => 0))), (q15, .inl (K 0, 8, .inl (fun _ => 0)))]) rfl ?_
  refine XN_putF (i := 0) (fs := [.int 0, .ref q7, .null, .null, .null, .int 0, .null, .null, .null, .int 0, .int 0]) ff_X6_15 rfl rfl (Nat.le_of_ble_eq_true rfl) rfl rfl dX6_init_17 rfl ?_
  refine XN_ws (ws' := [(a, .inr (6, [.int 0, .ref q7, .ref q15, .null, .null, .int 0, .null, .null, .null, .int 0, .int 0])), (q7, .inl (K 0, 8, .inl (fun _ => 0))), (q15, .inl (K 0, 8, .inl (fun _ => 0)))]) rfl ?_
  refine XN_aload_n (a := 0) dX6_init_20 rfl rfl rfl ?_
  refine XN_bipush (w := 9) dX6_init_21 kb_9 rfl ?_
  refine XN_newi (N := 9) (by decide) (by decide) (by decide) (by decide) (by decide) t_149 dX6_init_23 rfl (fun q23 => ?_)
  refine XN_ws (ws' := [(a, .inr (6, [.int 0, .ref q7, .ref q15, .null, .null, .int 0, .null, .null, .null, .int 0, .int 0])), (q7, .inl (K 0, 8, .inl (fun _ => 0))), (q15, .inl (K 0, 8, .inl (fun _ => 0))), (q23, .inl (K 0, 9, .inl (fun _ => 0)))]) rfl ?_
  refine XN_putF (i := 0) (fs := [.int 0, .ref q7, .ref q15, .null, .null, .int 0, .null, .null, .null, .int 0, .int 0]) ff_X6_18 rfl rfl (Nat.le_of_ble_eq_true rfl) rfl rfl dX6_init_25 rfl ?_
  refine XN_ws (ws' := [(a, .inr (6, [.int 0, .ref q7, .ref q15, .ref q23, .null, .int 0, .null, .null, .null, .int 0, .int 0])), (q7, .inl (K 0, 8, .inl (fun _ => 0))), (q15, .inl (K 0, 8, .inl (fun _ => 0))), (q23, .inl (K 0, 9, .inl (fun _ => 0)))]) rfl ?_
  refine XN_aload_n (a := 0) dX6_init_28 rfl rfl rfl ?_
  refine XN_sipush (w := 200) dX6_init_29 ks_200 rfl ?_
  refine XN_newi (N := 200) (by decide) (by decide) (by decide) (by decide) (by decide) t_149 dX6_init_32 rfl (fun q32 => ?_)
  refine XN_ws (ws' := [(a, .inr (6, [.int 0, .ref q7, .ref q15, .ref q23, .null, .int 0, .null, .null, .null, .int 0, .int 0])), (q7, .inl (K 0, 8, .inl (fun _ => 0))), (q15, .inl (K 0, 8, .inl (fun _ => 0))), (q23, .inl (K 0, 9, .inl (fun _ => 0))), (q32, .inl (K 0, 200, .inl (fun _ => 0)))]) rfl ?_
  refine XN_putF (i := 0) (fs := [.int 0, .ref q7, .ref q15, .ref q23, .null, .int 0, .null, .null, .null, .int 0, .int 0]) ff_X6_21 rfl rfl (Nat.le_of_ble_eq_true rfl) rfl rfl dX6_init_34 rfl ?_
  refine XN_ws (ws' := [(a, .inr (6, [.int 0, .ref q7, .ref q15, .ref q23, .ref q32, .int 0, .null, .null, .null, .int 0, .int 0])), (q7, .inl (K 0, 8, .inl (fun _ => 0))), (q15, .inl (K 0, 8, .inl (fun _ => 0))), (q23, .inl (K 0, 9, .inl (fun _ => 0))), (q32, .inl (K 0, 200, .inl (fun _ => 0)))]) rfl ?_
  refine XN_aload_n (a := 0) dX6_init_37 rfl rfl rfl ?_
  refine XN_iconst (w := 5) dX6_init_38 ki_5 rfl ?_
  refine XN_newi (N := 5) (by decide) (by decide) (by decide) (by decide) (by decide) t_149 dX6_init_39 rfl (fun q39 => ?_)
  refine XN_ws (ws' := [(a, .inr (6, [.int 0, .ref q7, .ref q15, .ref q23, .ref q32, .int 0, .null, .null, .null, .int 0, .int 0])), (q7, .inl (K 0, 8, .inl (fun _ => 0))), (q15, .inl (K 0, 8, .inl (fun _ => 0))), (q23, .inl (K 0, 9, .inl (fun _ => 0))), (q32, .inl (K 0, 200, .inl (fun _ => 0))), (q39, .inl (K 0, 5, .inl (fun _ => 0)))]) rfl ?_
  refine XN_putF (i := 0) (fs := [.int 0, .ref q7, .ref q15, .ref q23, .ref q32, .int 0, .null, .null, .null, .int 0, .int 0]) ff_X6_24 rfl rfl (Nat.le_of_ble_eq_true rfl) rfl rfl dX6_init_41 rfl ?_
  refine XN_ws (ws' := [(a, .inr (6, [.int 0, .ref q7, .ref q15, .ref q23, .ref q32, .int 0, .ref q39, .null, .null, .int 0, .int 0])), (q7, .inl (K 0, 8, .inl (fun _ => 0))), (q15, .inl (K 0, 8, .inl (fun _ => 0))), (q23, .inl (K 0, 9, .inl (fun _ => 0))), (q32, .inl (K 0, 200, .inl (fun _ => 0))), (q39, .inl (K 0, 5, .inl (fun _ => 0)))]) rfl ?_
  refine XN_aload_n (a := 0) dX6_init_44 rfl rfl rfl ?_
  refine XN_sipush (w := 201) dX6_init_45 ks_201 rfl ?_
  refine XN_newi (N := 201) (by decide) (by decide) (by decide) (by decide) (by decide) t_149 dX6_init_48 rfl (fun q48 => ?_)
  refine XN_ws (ws' := [(a, .inr (6, [.int 0, .ref q7, .ref q15, .ref q23, .ref q32, .int 0, .ref q39, .null, .null, .int 0, .int 0])), (q7, .inl (K 0, 8, .inl (fun _ => 0))), (q15, .inl (K 0, 8, .inl (fun _ => 0))), (q23, .inl (K 0, 9, .inl (fun _ => 0))), (q32, .inl (K 0, 200, .inl (fun _ => 0))), (q39, .inl (K 0, 5, .inl (fun _ => 0))), (q48, .inl (K 0, 201, .inl (fun _ => 0)))]) rfl ?_
  refine XN_putF (i := 0) (fs := [.int 0, .ref q7, .ref q15, .ref q23, .ref q32, .int 0, .ref q39, .null, .null, .int 0, .int 0]) ff_X6_27 rfl rfl (Nat.le_of_ble_eq_true rfl) rfl rfl dX6_init_50 rfl ?_
  refine XN_ws (ws' := [(a, .inr (6, [.int 0, .ref q7, .ref q15, .ref q23, .ref q32, .int 0, .ref q39, .ref q48, .null, .int 0, .int 0])), (q7, .inl (K 0, 8, .inl (fun _ => 0))), (q15, .inl (K 0, 8, .inl (fun _ => 0))), (q23, .inl (K 0, 9, .inl (fun _ => 0))), (q32, .inl (K 0, 200, .inl (fun _ => 0))), (q39, .inl (K 0, 5, .inl (fun _ => 0))), (q48, .inl (K 0, 201, .inl (fun _ => 0)))]) rfl ?_
  refine XN_aload_n (a := 0) dX6_init_53 rfl rfl rfl ?_
  refine XN_sipush (w := 201) dX6_init_54 ks_201 rfl ?_
  refine XN_newi (N := 201) (by decide) (by decide) (by decide) (by decide) (by decide) t_149 dX6_init_57 rfl (fun q57 => ?_)
  refine XN_ws (ws' := [(a, .inr (6, [.int 0, .ref q7, .ref q15, .ref q23, .ref q32, .int 0, .ref q39, .ref q48, .null, .int 0, .int 0])), (q7, .inl (K 0, 8, .inl (fun _ => 0))), (q15, .inl (K 0, 8, .inl (fun _ => 0))), (q23, .inl (K 0, 9, .inl (fun _ => 0))), (q32, .inl (K 0, 200, .inl (fun _ => 0))), (q39, .inl (K 0, 5, .inl (fun _ => 0))), (q48, .inl (K 0, 201, .inl (fun _ => 0))), (q57, .inl (K 0, 201, .inl (fun _ => 0)))]) rfl ?_
  refine XN_putF (i := 0) (fs := [.int 0, .ref q7, .ref q15, .ref q23, .ref q32, .int 0, .ref q39, .ref q48, .null, .int 0, .int 0]) ff_X6_30 rfl rfl (Nat.le_of_ble_eq_true rfl) rfl rfl dX6_init_59 rfl ?_
  refine XN_ws (ws' := [(a, .inr (6, [.int 0, .ref q7, .ref q15, .ref q23, .ref q32, .int 0, .ref q39, .ref q48, .ref q57, .int 0, .int 0])), (q7, .inl (K 0, 8, .inl (fun _ => 0))), (q15, .inl (K 0, 8, .inl (fun _ => 0))), (q23, .inl (K 0, 9, .inl (fun _ => 0))), (q32, .inl (K 0, 200, .inl (fun _ => 0))), (q39, .inl (K 0, 5, .inl (fun _ => 0))), (q48, .inl (K 0, 201, .inl (fun _ => 0))), (q57, .inl (K 0, 201, .inl (fun _ => 0)))]) rfl ?_
  exact XN_vret rfl ⟨fun i => ([q7, q15, q23, q32, q39, q48, q57] : List Nat).getD i 0, rfl⟩ (by decide) (by decide) dX6_init_62
def W_X7_init (K : Nat → ClassId) (a : Nat) (u : Nat → Nat) : va_W := [(a, .inr (7, [.ref (u 0), .int 0, .int 0, .int 0, .int 0])), ((u 0), .inl (K 0, 30, .inl (fun _ => 0)))]
set_option maxRecDepth 100000 in
set_option maxHeartbeats 4000000 in
theorem n_X7_init (l : Launch) (D : va_G) (K : Nat → ClassId) (a : Nat) : CtN l D K miX7_init 1 1 30 [.ref a] [(a, .inr (7, [.null, .int 0, .int 0, .int 0, .int 0]))] (fun w => ∃ (u : Nat → Nat), w = W_X7_init K a u ) := by
  refine CtN_of (pn_X7) (Nat.le_of_ble_eq_true rfl) (fun sz => ?_)
  refine XN_lv [0] (lv' := [(0, .ref a)]) rfl ?_
  refine XN_aload_n (a := 0) dX7_init_0 rfl rfl rfl ?_
  refine XN_objInit of_X7_3 (by decide) (by decide) dX7_init_1 rfl ?_
  refine XN_aload_n (a := 0) dX7_init_4 rfl rfl rfl ?_
  refine XN_bipush (w := 30) dX7_init_5 kb_30 rfl ?_
  refine XN_newi (N := 30) (by decide) (by decide) (by decide) (by decide) (by decide) t_149 dX7_init_7 rfl (fun q7 => ?_)
  refine XN_ws (ws' := [(a, .inr (7, [.null, .int 0, .int 0, .int 0, .int 0])), (q7, .inl (K 0, 30, .inl (fun _ => 0)))]) rfl ?_
  refine XN_putF (i := 0) (fs := [.null, .int 0, .int 0, .int 0, .int 0]) ff_X7_9 rfl rfl (Nat.le_of_ble_eq_true rfl) rfl rfl dX7_init_9 rfl ?_
  refine XN_ws (ws' := [(a, .inr (7, [.ref q7, .int 0, .int 0, .int 0, .int 0])), (q7, .inl (K 0, 30, .inl (fun _ => 0)))]) rfl ?_
  exact XN_vret rfl ⟨fun i => ([q7] : List Nat).getD i 0, rfl⟩ (by decide) (by decide) dX7_init_12
