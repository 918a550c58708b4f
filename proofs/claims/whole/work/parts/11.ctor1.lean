set_option maxRecDepth 20000 in
theorem uw_74 : Cond.methodLink RX10 3 objectInit ∈ uw := List.mem_filter.mpr ⟨List.mem_of_getElem? (i := 74) (by decide +kernel), by decide +kernel⟩
set_option maxRecDepth 20000 in
theorem uw_75 : Cond.instanceMethod objectInit ∈ uw := List.mem_filter.mpr ⟨List.mem_of_getElem? (i := 75) (by decide +kernel), by decide +kernel⟩
set_option maxRecDepth 20000 in
theorem uw_76 : Cond.code objectInit ⟨#[0xb1]⟩ 1 none ∈ uw := List.mem_filter.mpr ⟨List.mem_of_getElem? (i := 76) (by decide +kernel), by decide +kernel⟩
set_option maxRecDepth 20000 in
theorem uw_77 : Cond.classLink RX10 9 RX8 ∈ uw := List.mem_filter.mpr ⟨List.mem_of_getElem? (i := 77) (by decide +kernel), by decide +kernel⟩
set_option maxRecDepth 20000 in
theorem uw_78 : Cond.instantiable RX8 2 ∈ uw := List.mem_filter.mpr ⟨List.mem_of_getElem? (i := 78) (by decide +kernel), by decide +kernel⟩
set_option maxRecDepth 20000 in
theorem uw_80 : Cond.instanceMethod yX8_init ∈ uw := List.mem_filter.mpr ⟨List.mem_of_getElem? (i := 80) (by decide +kernel), by decide +kernel⟩
set_option maxRecDepth 20000 in
theorem uw_81 : Cond.code yX8_init cX8_init 1 none ∈ uw := List.mem_filter.mpr ⟨List.mem_of_getElem? (i := 81) (by decide +kernel), by decide +kernel⟩
set_option maxRecDepth 20000 in
theorem uw_82 : Cond.methodLink RX8 1 objectInit ∈ uw := List.mem_filter.mpr ⟨List.mem_of_getElem? (i := 82) (by decide +kernel), by decide +kernel⟩
set_option maxRecDepth 20000 in
theorem uw_91 : Cond.classLink RX10 16 RX2 ∈ uw := List.mem_filter.mpr ⟨List.mem_of_getElem? (i := 91) (by decide +kernel), by decide +kernel⟩
set_option maxRecDepth 20000 in
theorem uw_92 : Cond.instantiable RX2 6 ∈ uw := List.mem_filter.mpr ⟨List.mem_of_getElem? (i := 92) (by decide +kernel), by decide +kernel⟩
set_option maxRecDepth 20000 in
theorem uw_93 : Cond.methodLink RX10 18 yX2_init ∈ uw := List.mem_filter.mpr ⟨List.mem_of_getElem? (i := 93) (by decide +kernel), by decide +kernel⟩
set_option maxRecDepth 20000 in
theorem uw_94 : Cond.instanceMethod yX2_init ∈ uw := List.mem_filter.mpr ⟨List.mem_of_getElem? (i := 94) (by decide +kernel), by decide +kernel⟩
set_option maxRecDepth 20000 in
theorem uw_95 : Cond.code yX2_init cX2_init 2 none ∈ uw := List.mem_filter.mpr ⟨List.mem_of_getElem? (i := 95) (by decide +kernel), by decide +kernel⟩
set_option maxRecDepth 20000 in
theorem uw_96 : Cond.methodLink RX2 3 objectInit ∈ uw := List.mem_filter.mpr ⟨List.mem_of_getElem? (i := 96) (by decide +kernel), by decide +kernel⟩
set_option maxRecDepth 20000 in
theorem uw_116 : Cond.arrayClass .boolean ∈ uw := List.mem_filter.mpr ⟨List.mem_of_getElem? (i := 116) (by decide +kernel), by decide +kernel⟩
set_option maxRecDepth 20000 in
theorem uw_117 : Cond.classLink RX10 25 RX1 ∈ uw := List.mem_filter.mpr ⟨List.mem_of_getElem? (i := 117) (by decide +kernel), by decide +kernel⟩
set_option maxRecDepth 20000 in
theorem uw_118 : Cond.instantiable RX1 4 ∈ uw := List.mem_filter.mpr ⟨List.mem_of_getElem? (i := 118) (by decide +kernel), by decide +kernel⟩
set_option maxRecDepth 20000 in
theorem uw_120 : Cond.instanceMethod yX1_init ∈ uw := List.mem_filter.mpr ⟨List.mem_of_getElem? (i := 120) (by decide +kernel), by decide +kernel⟩
set_option maxRecDepth 20000 in
theorem uw_121 : Cond.code yX1_init cX1_init 1 none ∈ uw := List.mem_filter.mpr ⟨List.mem_of_getElem? (i := 121) (by decide +kernel), by decide +kernel⟩
set_option maxRecDepth 20000 in
theorem uw_122 : Cond.methodLink RX1 3 objectInit ∈ uw := List.mem_filter.mpr ⟨List.mem_of_getElem? (i := 122) (by decide +kernel), by decide +kernel⟩
set_option maxRecDepth 20000 in
theorem uw_136 : Cond.classLink RX10 32 RX5 ∈ uw := List.mem_filter.mpr ⟨List.mem_of_getElem? (i := 136) (by decide +kernel), by decide +kernel⟩
set_option maxRecDepth 20000 in
theorem uw_137 : Cond.instantiable RX5 8 ∈ uw := List.mem_filter.mpr ⟨List.mem_of_getElem? (i := 137) (by decide +kernel), by decide +kernel⟩
set_option maxRecDepth 20000 in
theorem uw_139 : Cond.instanceMethod yX5_init ∈ uw := List.mem_filter.mpr ⟨List.mem_of_getElem? (i := 139) (by decide +kernel), by decide +kernel⟩
set_option maxRecDepth 20000 in
theorem uw_140 : Cond.code yX5_init cX5_init 1 none ∈ uw := List.mem_filter.mpr ⟨List.mem_of_getElem? (i := 140) (by decide +kernel), by decide +kernel⟩
set_option maxRecDepth 20000 in
theorem uw_141 : Cond.methodLink RX5 3 objectInit ∈ uw := List.mem_filter.mpr ⟨List.mem_of_getElem? (i := 141) (by decide +kernel), by decide +kernel⟩
set_option maxRecDepth 20000 in
theorem uw_167 : Cond.classLink RX10 39 RX6 ∈ uw := List.mem_filter.mpr ⟨List.mem_of_getElem? (i := 167) (by decide +kernel), by decide +kernel⟩
set_option maxRecDepth 20000 in
theorem uw_168 : Cond.instantiable RX6 9 ∈ uw := List.mem_filter.mpr ⟨List.mem_of_getElem? (i := 168) (by decide +kernel), by decide +kernel⟩
set_option maxRecDepth 20000 in
theorem uw_169 : Cond.methodLink RX10 41 yX6_init ∈ uw := List.mem_filter.mpr ⟨List.mem_of_getElem? (i := 169) (by decide +kernel), by decide +kernel⟩
set_option maxRecDepth 20000 in
theorem uw_170 : Cond.instanceMethod yX6_init ∈ uw := List.mem_filter.mpr ⟨List.mem_of_getElem? (i := 170) (by decide +kernel), by decide +kernel⟩
set_option maxRecDepth 20000 in
theorem uw_171 : Cond.code yX6_init cX6_init 3 none ∈ uw := List.mem_filter.mpr ⟨List.mem_of_getElem? (i := 171) (by decide +kernel), by decide +kernel⟩
set_option maxRecDepth 20000 in
theorem uw_172 : Cond.methodLink RX6 3 objectInit ∈ uw := List.mem_filter.mpr ⟨List.mem_of_getElem? (i := 172) (by decide +kernel), by decide +kernel⟩
set_option maxRecDepth 20000 in
theorem uw_201 : Cond.classLink RX10 48 RX0 ∈ uw := List.mem_filter.mpr ⟨List.mem_of_getElem? (i := 201) (by decide +kernel), by decide +kernel⟩
set_option maxRecDepth 20000 in
theorem uw_202 : Cond.instantiable RX0 3 ∈ uw := List.mem_filter.mpr ⟨List.mem_of_getElem? (i := 202) (by decide +kernel), by decide +kernel⟩
set_option maxRecDepth 20000 in
theorem uw_204 : Cond.instanceMethod yX0_init ∈ uw := List.mem_filter.mpr ⟨List.mem_of_getElem? (i := 204) (by decide +kernel), by decide +kernel⟩
set_option maxRecDepth 20000 in
theorem uw_205 : Cond.code yX0_init cX0_init 1 none ∈ uw := List.mem_filter.mpr ⟨List.mem_of_getElem? (i := 205) (by decide +kernel), by decide +kernel⟩
set_option maxRecDepth 20000 in
theorem uw_206 : Cond.methodLink RX0 3 objectInit ∈ uw := List.mem_filter.mpr ⟨List.mem_of_getElem? (i := 206) (by decide +kernel), by decide +kernel⟩
set_option maxRecDepth 20000 in
theorem uw_217 : Cond.classLink RX10 55 RX7 ∈ uw := List.mem_filter.mpr ⟨List.mem_of_getElem? (i := 217) (by decide +kernel), by decide +kernel⟩
set_option maxRecDepth 20000 in
theorem uw_218 : Cond.instantiable RX7 10 ∈ uw := List.mem_filter.mpr ⟨List.mem_of_getElem? (i := 218) (by decide +kernel), by decide +kernel⟩
set_option maxRecDepth 20000 in
theorem uw_220 : Cond.instanceMethod yX7_init ∈ uw := List.mem_filter.mpr ⟨List.mem_of_getElem? (i := 220) (by decide +kernel), by decide +kernel⟩
set_option maxRecDepth 20000 in
theorem uw_221 : Cond.code yX7_init cX7_init 1 none ∈ uw := List.mem_filter.mpr ⟨List.mem_of_getElem? (i := 221) (by decide +kernel), by decide +kernel⟩
set_option maxRecDepth 20000 in
theorem uw_222 : Cond.methodLink RX7 3 objectInit ∈ uw := List.mem_filter.mpr ⟨List.mem_of_getElem? (i := 222) (by decide +kernel), by decide +kernel⟩
set_option maxRecDepth 20000 in
theorem uw_254 : Cond.classLink RX10 62 RX9 ∈ uw := List.mem_filter.mpr ⟨List.mem_of_getElem? (i := 254) (by decide +kernel), by decide +kernel⟩
set_option maxRecDepth 20000 in
theorem uw_255 : Cond.instantiable RX9 3 ∈ uw := List.mem_filter.mpr ⟨List.mem_of_getElem? (i := 255) (by decide +kernel), by decide +kernel⟩
set_option maxRecDepth 20000 in
theorem uw_257 : Cond.instanceMethod yX9_init ∈ uw := List.mem_filter.mpr ⟨List.mem_of_getElem? (i := 257) (by decide +kernel), by decide +kernel⟩
set_option maxRecDepth 20000 in
theorem uw_258 : Cond.code yX9_init cX9_init 1 none ∈ uw := List.mem_filter.mpr ⟨List.mem_of_getElem? (i := 258) (by decide +kernel), by decide +kernel⟩
set_option maxRecDepth 20000 in
theorem uw_259 : Cond.methodLink RX9 3 objectInit ∈ uw := List.mem_filter.mpr ⟨List.mem_of_getElem? (i := 259) (by decide +kernel), by decide +kernel⟩
set_option maxRecDepth 20000 in
theorem uw_270 : Cond.classLink RX10 69 RX3 ∈ uw := List.mem_filter.mpr ⟨List.mem_of_getElem? (i := 270) (by decide +kernel), by decide +kernel⟩
set_option maxRecDepth 20000 in
theorem uw_271 : Cond.instantiable RX3 7 ∈ uw := List.mem_filter.mpr ⟨List.mem_of_getElem? (i := 271) (by decide +kernel), by decide +kernel⟩
set_option maxRecDepth 20000 in
theorem uw_273 : Cond.instanceMethod yX3_init ∈ uw := List.mem_filter.mpr ⟨List.mem_of_getElem? (i := 273) (by decide +kernel), by decide +kernel⟩
set_option maxRecDepth 20000 in
theorem uw_274 : Cond.code yX3_init cX3_init 1 none ∈ uw := List.mem_filter.mpr ⟨List.mem_of_getElem? (i := 274) (by decide +kernel), by decide +kernel⟩
set_option maxRecDepth 20000 in
theorem uw_275 : Cond.methodLink RX3 5 objectInit ∈ uw := List.mem_filter.mpr ⟨List.mem_of_getElem? (i := 275) (by decide +kernel), by decide +kernel⟩
set_option maxRecDepth 20000 in
theorem uw_298 : Cond.classLink RX10 76 RX4 ∈ uw := List.mem_filter.mpr ⟨List.mem_of_getElem? (i := 298) (by decide +kernel), by decide +kernel⟩
set_option maxRecDepth 20000 in
theorem uw_299 : Cond.instantiable RX4 7 ∈ uw := List.mem_filter.mpr ⟨List.mem_of_getElem? (i := 299) (by decide +kernel), by decide +kernel⟩
set_option maxRecDepth 20000 in
theorem uw_300 : Cond.methodLink RX10 78 yX4_init ∈ uw := List.mem_filter.mpr ⟨List.mem_of_getElem? (i := 300) (by decide +kernel), by decide +kernel⟩
set_option maxRecDepth 20000 in
theorem uw_301 : Cond.instanceMethod yX4_init ∈ uw := List.mem_filter.mpr ⟨List.mem_of_getElem? (i := 301) (by decide +kernel), by decide +kernel⟩
set_option maxRecDepth 20000 in
theorem uw_302 : Cond.code yX4_init cX4_init 5 none ∈ uw := List.mem_filter.mpr ⟨List.mem_of_getElem? (i := 302) (by decide +kernel), by decide +kernel⟩
set_option maxRecDepth 20000 in
theorem uw_303 : Cond.methodLink RX4 3 objectInit ∈ uw := List.mem_filter.mpr ⟨List.mem_of_getElem? (i := 303) (by decide +kernel), by decide +kernel⟩
set_option maxRecDepth 20000 in
theorem uw_523 : Cond.arrayClass .byte ∈ uw := List.mem_filter.mpr ⟨List.mem_of_getElem? (i := 523) (by decide +kernel), by decide +kernel⟩
set_option maxRecDepth 20000 in
theorem uw_976 : Cond.methodLink RX11 1 objectInit ∈ uw := List.mem_filter.mpr ⟨List.mem_of_getElem? (i := 976) (by decide +kernel), by decide +kernel⟩
theorem df_X0 : ∀ j, j < 3 → defaultValue (tyX0 j) = vp_V [.null, .null, .int 0] j := by
  have h0 : ∀ j, j < 0 → defaultValue (tyX0 j) = vp_V [.null, .null, .int 0] j := lt_0
  have h1 : ∀ j, j < 1 → defaultValue (tyX0 j) = vp_V [.null, .null, .int 0] j := lt_s h0 rfl
  have h2 : ∀ j, j < 2 → defaultValue (tyX0 j) = vp_V [.null, .null, .int 0] j := lt_s h1 rfl
  have h3 : ∀ j, j < 3 → defaultValue (tyX0 j) = vp_V [.null, .null, .int 0] j := lt_s h2 rfl
  exact h3
theorem df_X1 : ∀ j, j < 4 → defaultValue (tyX1 j) = vp_V [.null, .null, .null, .int 0] j := by
  have h0 : ∀ j, j < 0 → defaultValue (tyX1 j) = vp_V [.null, .null, .null, .int 0] j := lt_0
  have h1 : ∀ j, j < 1 → defaultValue (tyX1 j) = vp_V [.null, .null, .null, .int 0] j := lt_s h0 rfl
  have h2 : ∀ j, j < 2 → defaultValue (tyX1 j) = vp_V [.null, .null, .null, .int 0] j := lt_s h1 rfl
  have h3 : ∀ j, j < 3 → defaultValue (tyX1 j) = vp_V [.null, .null, .null, .int 0] j := lt_s h2 rfl
  have h4 : ∀ j, j < 4 → defaultValue (tyX1 j) = vp_V [.null, .null, .null, .int 0] j := lt_s h3 rfl
  exact h4
theorem df_X2 : ∀ j, j < 6 → defaultValue (tyX2 j) = vp_V [.null, .null, .null, .int 0, .int 0, .int 0] j := by
  have h0 : ∀ j, j < 0 → defaultValue (tyX2 j) = vp_V [.null, .null, .null, .int 0, .int 0, .int 0] j := lt_0
  have h1 : ∀ j, j < 1 → defaultValue (tyX2 j) = vp_V [.null, .null, .null, .int 0, .int 0, .int 0] j := lt_s h0 rfl
  have h2 : ∀ j, j < 2 → defaultValue (tyX2 j) = vp_V [.null, .null, .null, .int 0, .int 0, .int 0] j := lt_s h1 rfl
  have h3 : ∀ j, j < 3 → defaultValue (tyX2 j) = vp_V [.null, .null, .null, .int 0, .int 0, .int 0] j := lt_s h2 rfl
  have h4 : ∀ j, j < 4 → defaultValue (tyX2 j) = vp_V [.null, .null, .null, .int 0, .int 0, .int 0] j := lt_s h3 rfl
  have h5 : ∀ j, j < 5 → defaultValue (tyX2 j) = vp_V [.null, .null, .null, .int 0, .int 0, .int 0] j := lt_s h4 rfl
  have h6 : ∀ j, j < 6 → defaultValue (tyX2 j) = vp_V [.null, .null, .null, .int 0, .int 0, .int 0] j := lt_s h5 rfl
  exact h6
theorem df_X3 : ∀ j, j < 7 → defaultValue (tyX3 j) = vp_V [.null, .null, .null, .null, .null, .null, .int 0] j := by
  have h0 : ∀ j, j < 0 → defaultValue (tyX3 j) = vp_V [.null, .null, .null, .null, .null, .null, .int 0] j := lt_0
  have h1 : ∀ j, j < 1 → defaultValue (tyX3 j) = vp_V [.null, .null, .null, .null, .null, .null, .int 0] j := lt_s h0 rfl
  have h2 : ∀ j, j < 2 → defaultValue (tyX3 j) = vp_V [.null, .null, .null, .null, .null, .null, .int 0] j := lt_s h1 rfl
  have h3 : ∀ j, j < 3 → defaultValue (tyX3 j) = vp_V [.null, .null, .null, .null, .null, .null, .int 0] j := lt_s h2 rfl
  have h4 : ∀ j, j < 4 → defaultValue (tyX3 j) = vp_V [.null, .null, .null, .null, .null, .null, .int 0] j := lt_s h3 rfl
  have h5 : ∀ j, j < 5 → defaultValue (tyX3 j) = vp_V [.null, .null, .null, .null, .null, .null, .int 0] j := lt_s h4 rfl
  have h6 : ∀ j, j < 6 → defaultValue (tyX3 j) = vp_V [.null, .null, .null, .null, .null, .null, .int 0] j := lt_s h5 rfl
  have h7 : ∀ j, j < 7 → defaultValue (tyX3 j) = vp_V [.null, .null, .null, .null, .null, .null, .int 0] j := lt_s h6 rfl
  exact h7
theorem df_X4 : ∀ j, j < 7 → defaultValue (tyX4 j) = vp_V [.null, .null, .null, .null, .null, .int 0, .int 0] j := by
  have h0 : ∀ j, j < 0 → defaultValue (tyX4 j) = vp_V [.null, .null, .null, .null, .null, .int 0, .int 0] j := lt_0
  have h1 : ∀ j, j < 1 → defaultValue (tyX4 j) = vp_V [.null, .null, .null, .null, .null, .int 0, .int 0] j := lt_s h0 rfl
  have h2 : ∀ j, j < 2 → defaultValue (tyX4 j) = vp_V [.null, .null, .null, .null, .null, .int 0, .int 0] j := lt_s h1 rfl
  have h3 : ∀ j, j < 3 → defaultValue (tyX4 j) = vp_V [.null, .null, .null, .null, .null, .int 0, .int 0] j := lt_s h2 rfl
  have h4 : ∀ j, j < 4 → defaultValue (tyX4 j) = vp_V [.null, .null, .null, .null, .null, .int 0, .int 0] j := lt_s h3 rfl
  have h5 : ∀ j, j < 5 → defaultValue (tyX4 j) = vp_V [.null, .null, .null, .null, .null, .int 0, .int 0] j := lt_s h4 rfl
  have h6 : ∀ j, j < 6 → defaultValue (tyX4 j) = vp_V [.null, .null, .null, .null, .null, .int 0, .int 0] j := lt_s h5 rfl
  have h7 : ∀ j, j < 7 → defaultValue (tyX4 j) = vp_V [.null, .null, .null, .null, .null, .int 0, .int 0] j := lt_s h6 rfl
  exact h7
theorem df_X5 : ∀ j, j < 8 → defaultValue (tyX5 j) = vp_V [.null, .null, .null, .null, .null, .null, .null, .int 0] j := by
  have h0 : ∀ j, j < 0 → defaultValue (tyX5 j) = vp_V [.null, .null, .null, .null, .null, .null, .null, .int 0] j := lt_0
  have h1 : ∀ j, j < 1 → defaultValue (tyX5 j) = vp_V [.null, .null, .null, .null, .null, .null, .null, .int 0] j := lt_s h0 rfl
  have h2 : ∀ j, j < 2 → defaultValue (tyX5 j) = vp_V [.null, .null, .null, .null, .null, .null, .null, .int 0] j := lt_s h1 rfl
  have h3 : ∀ j, j < 3 → defaultValue (tyX5 j) = vp_V [.null, .null, .null, .null, .null, .null, .null, .int 0] j := lt_s h2 rfl
  have h4 : ∀ j, j < 4 → defaultValue (tyX5 j) = vp_V [.null, .null, .null, .null, .null, .null, .null, .int 0] j := lt_s h3 rfl
  have h5 : ∀ j, j < 5 → defaultValue (tyX5 j) = vp_V [.null, .null, .null, .null, .null, .null, .null, .int 0] j := lt_s h4 rfl
  have h6 : ∀ j, j < 6 → defaultValue (tyX5 j) = vp_V [.null, .null, .null, .null, .null, .null, .null, .int 0] j := lt_s h5 rfl
  have h7 : ∀ j, j < 7 → defaultValue (tyX5 j) = vp_V [.null, .null, .null, .null, .null, .null, .null, .int 0] j := lt_s h6 rfl
  have h8 : ∀ j, j < 8 → defaultValue (tyX5 j) = vp_V [.null, .null, .null, .null, .null, .null, .null, .int 0] j := lt_s h7 rfl
  exact h8
theorem df_X6 : ∀ j, j < 9 → defaultValue (tyX6 j) = vp_V [.null, .null, .null, .null, .null, .null, .null, .int 0, .int 0] j := by
  have h0 : ∀ j, j < 0 → defaultValue (tyX6 j) = vp_V [.null, .null, .null, .null, .null, .null, .null, .int 0, .int 0] j := lt_0
  have h1 : ∀ j, j < 1 → defaultValue (tyX6 j) = vp_V [.null, .null, .null, .null, .null, .null, .null, .int 0, .int 0] j := lt_s h0 rfl
  have h2 : ∀ j, j < 2 → defaultValue (tyX6 j) = vp_V [.null, .null, .null, .null, .null, .null, .null, .int 0, .int 0] j := lt_s h1 rfl
  have h3 : ∀ j, j < 3 → defaultValue (tyX6 j) = vp_V [.null, .null, .null, .null, .null, .null, .null, .int 0, .int 0] j := lt_s h2 rfl
  have h4 : ∀ j, j < 4 → defaultValue (tyX6 j) = vp_V [.null, .null, .null, .null, .null, .null, .null, .int 0, .int 0] j := lt_s h3 rfl
  have h5 : ∀ j, j < 5 → defaultValue (tyX6 j) = vp_V [.null, .null, .null, .null, .null, .null, .null, .int 0, .int 0] j := lt_s h4 rfl
  have h6 : ∀ j, j < 6 → defaultValue (tyX6 j) = vp_V [.null, .null, .null, .null, .null, .null, .null, .int 0, .int 0] j := lt_s h5 rfl
  have h7 : ∀ j, j < 7 → defaultValue (tyX6 j) = vp_V [.null, .null, .null, .null, .null, .null, .null, .int 0, .int 0] j := lt_s h6 rfl
  have h8 : ∀ j, j < 8 → defaultValue (tyX6 j) = vp_V [.null, .null, .null, .null, .null, .null, .null, .int 0, .int 0] j := lt_s h7 rfl
  have h9 : ∀ j, j < 9 → defaultValue (tyX6 j) = vp_V [.null, .null, .null, .null, .null, .null, .null, .int 0, .int 0] j := lt_s h8 rfl
  exact h9
theorem df_X7 : ∀ j, j < 10 → defaultValue (tyX7 j) = vp_V [.null, .null, .null, .null, .null, .null, .null, .null, .null, .int 0] j := by
  have h0 : ∀ j, j < 0 → defaultValue (tyX7 j) = vp_V [.null, .null, .null, .null, .null, .null, .null, .null, .null, .int 0] j := lt_0
  have h1 : ∀ j, j < 1 → defaultValue (tyX7 j) = vp_V [.null, .null, .null, .null, .null, .null, .null, .null, .null, .int 0] j := lt_s h0 rfl
  have h2 : ∀ j, j < 2 → defaultValue (tyX7 j) = vp_V [.null, .null, .null, .null, .null, .null, .null, .null, .null, .int 0] j := lt_s h1 rfl
  have h3 : ∀ j, j < 3 → defaultValue (tyX7 j) = vp_V [.null, .null, .null, .null, .null, .null, .null, .null, .null, .int 0] j := lt_s h2 rfl
  have h4 : ∀ j, j < 4 → defaultValue (tyX7 j) = vp_V [.null, .null, .null, .null, .null, .null, .null, .null, .null, .int 0] j := lt_s h3 rfl
  have h5 : ∀ j, j < 5 → defaultValue (tyX7 j) = vp_V [.null, .null, .null, .null, .null, .null, .null, .null, .null, .int 0] j := lt_s h4 rfl
  have h6 : ∀ j, j < 6 → defaultValue (tyX7 j) = vp_V [.null, .null, .null, .null, .null, .null, .null, .null, .null, .int 0] j := lt_s h5 rfl
  have h7 : ∀ j, j < 7 → defaultValue (tyX7 j) = vp_V [.null, .null, .null, .null, .null, .null, .null, .null, .null, .int 0] j := lt_s h6 rfl
  have h8 : ∀ j, j < 8 → defaultValue (tyX7 j) = vp_V [.null, .null, .null, .null, .null, .null, .null, .null, .null, .int 0] j := lt_s h7 rfl
  have h9 : ∀ j, j < 9 → defaultValue (tyX7 j) = vp_V [.null, .null, .null, .null, .null, .null, .null, .null, .null, .int 0] j := lt_s h8 rfl
  have h10 : ∀ j, j < 10 → defaultValue (tyX7 j) = vp_V [.null, .null, .null, .null, .null, .null, .null, .null, .null, .int 0] j := lt_s h9 rfl
  exact h10
theorem df_X8 : ∀ j, j < 2 → defaultValue (tyX8 j) = vp_V [.null, .int 0] j := by
  have h0 : ∀ j, j < 0 → defaultValue (tyX8 j) = vp_V [.null, .int 0] j := lt_0
  have h1 : ∀ j, j < 1 → defaultValue (tyX8 j) = vp_V [.null, .int 0] j := lt_s h0 rfl
  have h2 : ∀ j, j < 2 → defaultValue (tyX8 j) = vp_V [.null, .int 0] j := lt_s h1 rfl
  exact h2
theorem df_X9 : ∀ j, j < 3 → defaultValue (tyX9 j) = vp_V [.null, .null, .null] j := by
  have h0 : ∀ j, j < 0 → defaultValue (tyX9 j) = vp_V [.null, .null, .null] j := lt_0
  have h1 : ∀ j, j < 1 → defaultValue (tyX9 j) = vp_V [.null, .null, .null] j := lt_s h0 rfl
  have h2 : ∀ j, j < 2 → defaultValue (tyX9 j) = vp_V [.null, .null, .null] j := lt_s h1 rfl
  have h3 : ∀ j, j < 3 → defaultValue (tyX9 j) = vp_V [.null, .null, .null] j := lt_s h2 rfl
  exact h3
theorem df_X10 : ∀ j, j < 11 → defaultValue (tyX10 j) = vp_V [.null, .null, .null, .null, .null, .null, .null, .null, .null, .null, .int 0] j := by
  have h0 : ∀ j, j < 0 → defaultValue (tyX10 j) = vp_V [.null, .null, .null, .null, .null, .null, .null, .null, .null, .null, .int 0] j := lt_0
  have h1 : ∀ j, j < 1 → defaultValue (tyX10 j) = vp_V [.null, .null, .null, .null, .null, .null, .null, .null, .null, .null, .int 0] j := lt_s h0 rfl
  have h2 : ∀ j, j < 2 → defaultValue (tyX10 j) = vp_V [.null, .null, .null, .null, .null, .null, .null, .null, .null, .null, .int 0] j := lt_s h1 rfl
  have h3 : ∀ j, j < 3 → defaultValue (tyX10 j) = vp_V [.null, .null, .null, .null, .null, .null, .null, .null, .null, .null, .int 0] j := lt_s h2 rfl
  have h4 : ∀ j, j < 4 → defaultValue (tyX10 j) = vp_V [.null, .null, .null, .null, .null, .null, .null, .null, .null, .null, .int 0] j := lt_s h3 rfl
  have h5 : ∀ j, j < 5 → defaultValue (tyX10 j) = vp_V [.null, .null, .null, .null, .null, .null, .null, .null, .null, .null, .int 0] j := lt_s h4 rfl
  have h6 : ∀ j, j < 6 → defaultValue (tyX10 j) = vp_V [.null, .null, .null, .null, .null, .null, .null, .null, .null, .null, .int 0] j := lt_s h5 rfl
  have h7 : ∀ j, j < 7 → defaultValue (tyX10 j) = vp_V [.null, .null, .null, .null, .null, .null, .null, .null, .null, .null, .int 0] j := lt_s h6 rfl
  have h8 : ∀ j, j < 8 → defaultValue (tyX10 j) = vp_V [.null, .null, .null, .null, .null, .null, .null, .null, .null, .null, .int 0] j := lt_s h7 rfl
  have h9 : ∀ j, j < 9 → defaultValue (tyX10 j) = vp_V [.null, .null, .null, .null, .null, .null, .null, .null, .null, .null, .int 0] j := lt_s h8 rfl
  have h10 : ∀ j, j < 10 → defaultValue (tyX10 j) = vp_V [.null, .null, .null, .null, .null, .null, .null, .null, .null, .null, .int 0] j := lt_s h9 rfl
  have h11 : ∀ j, j < 11 → defaultValue (tyX10 j) = vp_V [.null, .null, .null, .null, .null, .null, .null, .null, .null, .null, .int 0] j := lt_s h10 rfl
  exact h11
theorem df_X11 : ∀ j, j < 52 → defaultValue (tyX11 j) = vp_V [.int 0, .null, .int 0, .int 0, .null, .null, .null, .int 0, .null, .null, .null, .null, .null, .null, .int 0, .null, .null, .null, .int 0, .null, .null, .null, .null, .null, .null, .null, .null, .null, .null, .null, .null, .null, .int 0, .null, .null, .null, .null, .int 0, .int 0, .int 0, .int 0, .int 0, .null, .int 0, .null, .null, .null, .null, .null, .int 0, .null, .null] j := by
  have h0 : ∀ j, j < 0 → defaultValue (tyX11 j) = vp_V [.int 0, .null, .int 0, .int 0, .null, .null, .null, .int 0, .null, .null, .null, .null, .null, .null, .int 0, .null, .null, .null, .int 0, .null, .null, .null, .null, .null, .null, .null, .null, .null, .null, .null, .null, .null, .int 0, .null, .null, .null, .null, .int 0, .int 0, .int 0, .int 0, .int 0, .null, .int 0, .null, .null, .null, .null, .null, .int 0, .null, .null] j := lt_0
  have h1 : ∀ j, j < 1 → defaultValue (tyX11 j) = vp_V [.int 0, .null, .int 0, .int 0, .null, .null, .null, .int 0, .null, .null, .null, .null, .null, .null, .int 0, .null, .null, .null, .int 0, .null, .null, .null, .null, .null, .null, .null, .null, .null, .null, .null, .null, .null, .int 0, .null, .null, .null, .null, .int 0, .int 0, .int 0, .int 0, .int 0, .null, .int 0, .null, .null, .null, .null, .null, .int 0, .null, .null] j := lt_s h0 rfl
  have h2 : ∀ j, j < 2 → defaultValue (tyX11 j) = vp_V [.int 0, .null, .int 0, .int 0, .null, .null, .null, .int 0, .null, .null, .null, .null, .null, .null, .int 0, .null, .null, .null, .int 0, .null, .null, .null, .null, .null, .null, .null, .null, .null, .null, .null, .null, .null, .int 0, .null, .null, .null, .null, .int 0, .int 0, .int 0, .int 0, .int 0, .null, .int 0, .null, .null, .null, .null, .null, .int 0, .null, .null] j := lt_s h1 rfl
  have h3 : ∀ j, j < 3 → defaultValue (tyX11 j) = vp_V [.int 0, .null, .int 0, .int 0, .null, .null, .null, .int 0, .null, .null, .null, .null, .null, .null, .int 0, .null, .null, .null, .int 0, .null, .null, .null, .null, .null, .null, .null, .null, .null, .null, .null, .null, .null, .int 0, .null, .null, .null, .null, .int 0, .int 0, .int 0, .int 0, .int 0, .null, .int 0, .null, .null, .null, .null, .null, .int 0, .null, .null] j := lt_s h2 rfl
  have h4 : ∀ j, j < 4 → defaultValue (tyX11 j) = vp_V [.int 0, .null, .int 0, .int 0, .null, .null, .null, .int 0, .null, .null, .null, .null, .null, .null, .int 0, .null, .null, .null, .int 0, .null, .null, .null, .null, .null, .null, .null, .null, .null, .null, .null, .null, .null, .int 0, .null, .null, .null, .null, .int 0, .int 0, .int 0, .int 0, .int 0, .null, .int 0, .null, .null, .null, .null, .null, .int 0, .null, .null] j := lt_s h3 rfl
  have h5 : ∀ j, j < 5 → defaultValue (tyX11 j) = vp_V [.int 0, .null, .int 0, .int 0, .null, .null, .null, .int 0, .null, .null, .null, .null, .null, .null, .int 0, .null, .null, .null, .int 0, .null, .null, .null, .null, .null, .null, .null, .null, .null, .null, .null, .null, .null, .int 0, .null, .null, .null, .null, .int 0, .int 0, .int 0, .int 0, .int 0, .null, .int 0, .null, .null, .null, .null, .null, .int 0, .null, .null] j := lt_s h4 rfl
  have h6 : ∀ j, j < 6 → defaultValue (tyX11 j) = vp_V [.int 0, .null, .int 0, .int 0, .null, .null, .null, .int 0, .null, .null, .null, .null, .null, .null, .int 0, .null, .null, .null, .int 0, .null, .null, .null, .null, .null, .null, .null, .null, .null, .null, .null, .null, .null, .int 0, .null, .null, .null, .null, .int 0, .int 0, .int 0, .int 0, .int 0, .null, .int 0, .null, .null, .null, .null, .null, .int 0, .null, .null] j := lt_s h5 rfl
  have h7 : ∀ j, j < 7 → defaultValue (tyX11 j) = vp_V [.int 0, .null, .int 0, .int 0, .null, .null, .null, .int 0, .null, .null, .null, .null, .null, .null, .int 0, .null, .null, .null, .int 0, .null, .null, .null, .null, .null, .null, .null, .null, .null, .null, .null, .null, .null, .int 0, .null, .null, .null, .null, .int 0, .int 0, .int 0, .int 0, .int 0, .null, .int 0, .null, .null, .null, .null, .null, .int 0, .null, .null] j := lt_s h6 rfl
  have h8 : ∀ j, j < 8 → defaultValue (tyX11 j) = vp_V [.int 0, .null, .int 0, .int 0, .null, .null, .null, .int 0, .null, .null, .null, .null, .null, .null, .int 0, .null, .null, .null, .int 0, .null, .null, .null, .null, .null, .null, .null, .null, .null, .null, .null, .null, .null, .int 0, .null, .null, .null, .null, .int 0, .int 0, .int 0, .int 0, .int 0, .null, .int 0, .null, .null, .null, .null, .null, .int 0, .null, .null] j := lt_s h7 rfl
  have h9 : ∀ j, j < 9 → defaultValue (tyX11 j) = vp_V [.int 0, .null, .int 0, .int 0, .null, .null, .null, .int 0, .null, .null, .null, .null, .null, .null, .int 0, .null, .null, .null, .int 0, .null, .null, .null, .null, .null, .null, .null, .null, .null, .null, .null, .null, .null, .int 0, .null, .null, .null, .null, .int 0, .int 0, .int 0, .int 0, .int 0, .null, .int 0, .null, .null, .null, .null, .null, .int 0, .null, .null] j := lt_s h8 rfl
  have h10 : ∀ j, j < 10 → defaultValue (tyX11 j) = vp_V [.int 0, .null, .int 0, .int 0, .null, .null, .null, .int 0, .null, .null, .null, .null, .null, .null, .int 0, .null, .null, .null, .int 0, .null, .null, .null, .null, .null, .null, .null, .null, .null, .null, .null, .null, .null, .int 0, .null, .null, .null, .null, .int 0, .int 0, .int 0, .int 0, .int 0, .null, .int 0, .null, .null, .null, .null, .null, .int 0, .null, .null] j := lt_s h9 rfl
  have h11 : ∀ j, j < 11 → defaultValue (tyX11 j) = vp_V [.int 0, .null, .int 0, .int 0, .null, .null, .null, .int 0, .null, .null, .null, .null, .null, .null, .int 0, .null, .null, .null, .int 0, .null, .null, .null, .null, .null, .null, .null, .null, .null, .null, .null, .null, .null, .int 0, .null, .null, .null, .null, .int 0, .int 0, .int 0, .int 0, .int 0, .null, .int 0, .null, .null, .null, .null, .null, .int 0, .null, .null] j := lt_s h10 rfl
  have h12 : ∀ j, j < 12 → defaultValue (tyX11 j) = vp_V [.int 0, .null, .int 0, .int 0, .null, .null, .null, .int 0, .null, .null, .null, .null, .null, .null, .int 0, .null, .null, .null, .int 0, .null, .null, .null, .null, .null, .null, .null, .null, .null, .null, .null, .null, .null, .int 0, .null, .null, .null, .null, .int 0, .int 0, .int 0, .int 0, .int 0, .null, .int 0, .null, .null, .null, .null, .null, .int 0, .null, .null] j := lt_s h11 rfl
  have h13 : ∀ j, j < 13 → defaultValue (tyX11 j) = vp_V [.int 0, .null, .int 0, .int 0, .null, .null, .null, .int 0, .null, .null, .null, .null, .null, .null, .int 0, .null, .null, .null, .int 0, .null, .null, .null, .null, .null, .null, .null, .null, .null, .null, .null, .null, .null, .int 0, .null, .null, .null, .null, .int 0, .int 0, .int 0, .int 0, .int 0, .null, .int 0, .null, .null, .null, .null, .null, .int 0, .null, .null] j := lt_s h12 rfl
  have h14 : ∀ j, j < 14 → defaultValue (tyX11 j) = vp_V [.int 0, .null, .int 0, .int 0, .null, .null, .null, .int 0, .null, .null, .null, .null, .null, .null, .int 0, .null, .null, .null, .int 0, .null, .null, .null, .null, .null, .null, .null, .null, .null, .null, .null, .null, .null, .int 0, .null, .null, .null, .null, .int 0, .int 0, .int 0, .int 0, .int 0, .null, .int 0, .null, .null, .null, .null, .null, .int 0, .null, .null] j := lt_s h13 rfl
  have h15 : ∀ j, j < 15 → defaultValue (tyX11 j) = vp_V [.int 0, .null, .int 0, .int 0, .null, .null, .null, .int 0, .null, .null, .null, .null, .null, .null, .int 0, .null, .null, .null, .int 0, .null, .null, .null, .null, .null, .null, .null, .null, .null, .null, .null, .null, .null, .int 0, .null, .null, .null, .null, .int 0, .int 0, .int 0, .int 0, .int 0, .null, .int 0, .null, .null, .null, .null, .null, .int 0, .null, .null] j := lt_s h14 rfl
  have h16 : ∀ j, j < 16 → defaultValue (tyX11 j) = vp_V [.int 0, .null, .int 0, .int 0, .null, .null, .null, .int 0, .null, .null, .null, .null, .null, .null, .int 0, .null, .null, .null, .int 0, .null, .null, .null, .null, .null, .null, .null, .null, .null, .null, .null, .null, .null, .int 0, .null, .null, .null, .null, .int 0, .int 0, .int 0, .int 0, .int 0, .null, .int 0, .null, .null, .null, .null, .null, .int 0, .null, .null] j := lt_s h15 rfl
  have h17 : ∀ j, j < 17 → defaultValue (tyX11 j) = vp_V [.int 0, .null, .int 0, .int 0, .null, .null, .null, .int 0, .null, .null, .null, .null, .null, .null, .int 0, .null, .null, .null, .int 0, .null, .null, .null, .null, .null, .null, .null, .null, .null, .null, .null, .null, .null, .int 0, .null, .null, .null, .null, .int 0, .int 0, .int 0, .int 0, .int 0, .null, .int 0, .null, .null, .null, .null, .null, .int 0, .null, .null] j := lt_s h16 rfl
  have h18 : ∀ j, j < 18 → defaultValue (tyX11 j) = vp_V [.int 0, .null, .int 0, .int 0, .null, .null, .null, .int 0, .null, .null, .null, .null, .null, .null, .int 0, .null, .null, .null, .int 0, .null, .null, .null, .null, .null, .null, .null, .null, .null, .null, .null, .null, .null, .int 0, .null, .null, .null, .null, .int 0, .int 0, .int 0, .int 0, .int 0, .null, .int 0, .null, .null, .null, .null, .null, .int 0, .null, .null] j := lt_s h17 rfl
  have h19 : ∀ j, j < 19 → defaultValue (tyX11 j) = vp_V [.int 0, .null, .int 0, .int 0, .null, .null, .null, .int 0, .null, .null, .null, .null, .null, .null, .int 0, .null, .null, .null, .int 0, .null, .null, .null, .null, .null, .null, .null, .null, .null, .null, .null, .null, .null, .int 0, .null, .null, .null, .null, .int 0, .int 0, .int 0, .int 0, .int 0, .null, .int 0, .null, .null, .null, .null, .null, .int 0, .null, .null] j := lt_s h18 rfl
  have h20 : ∀ j, j < 20 → defaultValue (tyX11 j) = vp_V [.int 0, .null, .int 0, .int 0, .null, .null, .null, .int 0, .null, .null, .null, .null, .null, .null, .int 0, .null, .null, .null, .int 0, .null, .null, .null, .null, .null, .null, .null, .null, .null, .null, .null, .null, .null, .int 0, .null, .null, .null, .null, .int 0, .int 0, .int 0, .int 0, .int 0, .null, .int 0, .null, .null, .null, .null, .null, .int 0, .null, .null] j := lt_s h19 rfl
  have h21 : ∀ j, j < 21 → defaultValue (tyX11 j) = vp_V [.int 0, .null, .int 0, .int 0, .null, .null, .null, .int 0, .null, .null, .null, .null, .null, .null, .int 0, .null, .null, .null, .int 0, .null, .null, .null, .null, .null, .null, .null, .null, .null, .null, .null, .null, .null, .int 0, .null, .null, .null, .null, .int 0, .int 0, .int 0, .int 0, .int 0, .null, .int 0, .null, .null, .null, .null, .null, .int 0, .null, .null] j := lt_s h20 rfl
  have h22 : ∀ j, j < 22 → defaultValue (tyX11 j) = vp_V [.int 0, .null, .int 0, .int 0, .null, .null, .null, .int 0, .null, .null, .null, .null, .null, .null, .int 0, .null, .null, .null, .int 0, .null, .null, .null, .null, .null, .null, .null, .null, .null, .null, .null, .null, .null, .int 0, .null, .null, .null, .null, .int 0, .int 0, .int 0, .int 0, .int 0, .null, .int 0, .null, .null, .null, .null, .null, .int 0, .null, .null] j := lt_s h21 rfl
  have h23 : ∀ j, j < 23 → defaultValue (tyX11 j) = vp_V [.int 0, .null, .int 0, .int 0, .null, .null, .null, .int 0, .null, .null, .null, .null, .null, .null, .int 0, .null, .null, .null, .int 0, .null, .null, .null, .null, .null, .null, .null, .null, .null, .null, .null, .null, .null, .int 0, .null, .null, .null, .null, .int 0, .int 0, .int 0, .int 0, .int 0, .null, .int 0, .null, .null, .null, .null, .null, .int 0, .null, .null] j := lt_s h22 rfl
  have h24 : ∀ j, j < 24 → defaultValue (tyX11 j) = vp_V [.int 0, .null, .int 0, .int 0, .null, .null, .null, .int 0, .null, .null, .null, .null, .null, .null, .int 0, .null, .null, .null, .int 0, .null, .null, .null, .null, .null, .null, .null, .null, .null, .null, .null, .null, .null, .int 0, .null, .null, .null, .null, .int 0, .int 0, .int 0, .int 0, .int 0, .null, .int 0, .null, .null, .null, .null, .null, .int 0, .null, .null] j := lt_s h23 rfl
  have h25 : ∀ j, j < 25 → defaultValue (tyX11 j) = vp_V [.int 0, .null, .int 0, .int 0, .null, .null, .null, .int 0, .null, .null, .null, .null, .null, .null, .int 0, .null, .null, .null, .int 0, .null, .null, .null, .null, .null, .null, .null, .null, .null, .null, .null, .null, .null, .int 0, .null, .null, .null, .null, .int 0, .int 0, .int 0, .int 0, .int 0, .null, .int 0, .null, .null, .null, .null, .null, .int 0, .null, .null] j := lt_s h24 rfl
  have h26 : ∀ j, j < 26 → defaultValue (tyX11 j) = vp_V [.int 0, .null, .int 0, .int 0, .null, .null, .null, .int 0, .null, .null, .null, .null, .null, .null, .int 0, .null, .null, .null, .int 0, .null, .null, .null, .null, .null, .null, .null, .null, .null, .null, .null, .null, .null, .int 0, .null, .null, .null, .null, .int 0, .int 0, .int 0, .int 0, .int 0, .null, .int 0, .null, .null, .null, .null, .null, .int 0, .null, .null] j := lt_s h25 rfl
  have h27 : ∀ j, j < 27 → defaultValue (tyX11 j) = vp_V [.int 0, .null, .int 0, .int 0, .null, .null, .null, .int 0, .null, .null, .null, .null, .null, .null, .int 0, .null, .null, .null, .int 0, .null, .null, .null, .null, .null, .null, .null, .null, .null, .null, .null, .null, .null, .int 0, .null, .null, .null, .null, .int 0, .int 0, .int 0, .int 0, .int 0, .null, .int 0, .null, .null, .null, .null, .null, .int 0, .null, .null] j := lt_s h26 rfl
  have h28 : ∀ j, j < 28 → defaultValue (tyX11 j) = vp_V [.int 0, .null, .int 0, .int 0, .null, .null, .null, .int 0, .null, .null, .null, .null, .null, .null, .int 0, .null, .null, .null, .int 0, .null, .null, .null, .null, .null, .null, .null, .null, .null, .null, .null, .null, .null, .int 0, .null, .null, .null, .null, .int 0, .int 0, .int 0, .int 0, .int 0, .null, .int 0, .null, .null, .null, .null, .null, .int 0, .null, .null] j := lt_s h27 rfl
  have h29 : ∀ j, j < 29 → defaultValue (tyX11 j) = vp_V [.int 0, .null, .int 0, .int 0, .null, .null, .null, .int 0, .null, .null, .null, .null, .null, .null, .int 0, .null, .null, .null, .int 0, .null, .null, .null, .null, .null, .null, .null, .null, .null, .null, .null, .null, .null, .int 0, .null, .null, .null, .null, .int 0, .int 0, .int 0, .int 0, .int 0, .null, .int 0, .null, .null, .null, .null, .null, .int 0, .null, .null] j := lt_s h28 rfl
  have h30 : ∀ j, j < 30 → defaultValue (tyX11 j) = vp_V [.int 0, .null, .int 0, .int 0, .null, .null, .null, .int 0, .null, .null, .null, .null, .null, .null, .int 0, .null, .null, .null, .int 0, .null, .null, .null, .null, .null, .null, .null, .null, .null, .null, .null, .null, .null, .int 0, .null, .null, .null, .null, .int 0, .int 0, .int 0, .int 0, .int 0, .null, .int 0, .null, .null, .null, .null, .null, .int 0, .null, .null] j := lt_s h29 rfl
  have h31 : ∀ j, j < 31 → defaultValue (tyX11 j) = vp_V [.int 0, .null, .int 0, .int 0, .null, .null, .null, .int 0, .null, .null, .null, .null, .null, .null, .int 0, .null, .null, .null, .int 0, .null, .null, .null, .null, .null, .null, .null, .null, .null, .null, .null, .null, .null, .int 0, .null, .null, .null, .null, .int 0, .int 0, .int 0, .int 0, .int 0, .null, .int 0, .null, .null, .null, .null, .null, .int 0, .null, .null] j := lt_s h30 rfl
  have h32 : ∀ j, j < 32 → defaultValue (tyX11 j) = vp_V [.int 0, .null, .int 0, .int 0, .null, .null, .null, .int 0, .null, .null, .null, .null, .null, .null, .int 0, .null, .null, .null, .int 0, .null, .null, .null, .null, .null, .null, .null, .null, .null, .null, .null, .null, .null, .int 0, .null, .null, .null, .null, .int 0, .int 0, .int 0, .int 0, .int 0, .null, .int 0, .null, .null, .null, .null, .null, .int 0, .null, .null] j := lt_s h31 rfl
  have h33 : ∀ j, j < 33 → defaultValue (tyX11 j) = vp_V [.int 0, .null, .int 0, .int 0, .null, .null, .null, .int 0, .null, .null, .null, .null, .null, .null, .int 0, .null, .null, .null, .int 0, .null, .null, .null, .null, .null, .null, .null, .null, .null, .null, .null, .null, .null, .int 0, .null, .null, .null, .null, .int 0, .int 0, .int 0, .int 0, .int 0, .null, .int 0, .null, .null, .null, .null, .null, .int 0, .null, .null] j := lt_s h32 rfl
  have h34 : ∀ j, j < 34 → defaultValue (tyX11 j) = vp_V [.int 0, .null, .int 0, .int 0, .null, .null, .null, .int 0, .null, .null, .null, .null, .null, .null, .int 0, .null, .null, .null, .int 0, .null, .null, .null, .null, .null, .null, .null, .null, .null, .null, .null, .null, .null, .int 0, .null, .null, .null, .null, .int 0, .int 0, .int 0, .int 0, .int 0, .null, .int 0, .null, .null, .null, .null, .null, .int 0, .null, .null] j := lt_s h33 rfl
  have h35 : ∀ j, j < 35 → defaultValue (tyX11 j) = vp_V [.int 0, .null, .int 0, .int 0, .null, .null, .null, .int 0, .null, .null, .null, .null, .null, .null, .int 0, .null, .null, .null, .int 0, .null, .null, .null, .null, .null, .null, .null, .null, .null, .null, .null, .null, .null, .int 0, .null, .null, .null, .null, .int 0, .int 0, .int 0, .int 0, .int 0, .null, .int 0, .null, .null, .null, .null, .null, .int 0, .null, .null] j := lt_s h34 rfl
  have h36 : ∀ j, j < 36 → defaultValue (tyX11 j) = vp_V [.int 0, .null, .int 0, .int 0, .null, .null, .null, .int 0, .null, .null, .null, .null, .null, .null, .int 0, .null, .null, .null, .int 0, .null, .null, .null, .null, .null, .null, .null, .null, .null, .null, .null, .null, .null, .int 0, .null, .null, .null, .null, .int 0, .int 0, .int 0, .int 0, .int 0, .null, .int 0, .null, .null, .null, .null, .null, .int 0, .null, .null] j := lt_s h35 rfl
  have h37 : ∀ j, j < 37 → defaultValue (tyX11 j) = vp_V [.int 0, .null, .int 0, .int 0, .null, .null, .null, .int 0, .null, .null, .null, .null, .null, .null, .int 0, .null, .null, .null, .int 0, .null, .null, .null, .null, .null, .null, .null, .null, .null, .null, .null, .null, .null, .int 0, .null, .null, .null, .null, .int 0, .int 0, .int 0, .int 0, .int 0, .null, .int 0, .null, .null, .null, .null, .null, .int 0, .null, .null] j := lt_s h36 rfl
  have h38 : ∀ j, j < 38 → defaultValue (tyX11 j) = vp_V [.int 0, .null, .int 0, .int 0, .null, .null, .null, .int 0, .null, .null, .null, .null, .null, .null, .int 0, .null, .null, .null, .int 0, .null, .null, .null, .null, .null, .null, .null, .null, .null, .null, .null, .null, .null, .int 0, .null, .null, .null, .null, .int 0, .int 0, .int 0, .int 0, .int 0, .null, .int 0, .null, .null, .null, .null, .null, .int 0, .null, .null] j := lt_s h37 rfl
  have h39 : ∀ j, j < 39 → defaultValue (tyX11 j) = vp_V [.int 0, .null, .int 0, .int 0, .null, .null, .null, .int 0, .null, .null, .null, .null, .null, .null, .int 0, .null, .null, .null, .int 0, .null, .null, .null, .null, .null, .null, .null, .null, .null, .null, .null, .null, .null, .int 0, .null, .null, .null, .null, .int 0, .int 0, .int 0, .int 0, .int 0, .null, .int 0, .null, .null, .null, .null, .null, .int 0, .null, .null] j := lt_s h38 rfl
  have h40 : ∀ j, j < 40 → defaultValue (tyX11 j) = vp_V [.int 0, .null, .int 0, .int 0, .null, .null, .null, .int 0, .null, .null, .null, .null, .null, .null, .int 0, .null, .null, .null, .int 0, .null, .null, .null, .null, .null, .null, .null, .null, .null, .null, .null, .null, .null, .int 0, .null, .null, .null, .null, .int 0, .int 0, .int 0, .int 0, .int 0, .null, .int 0, .null, .null, .null, .null, .null, .int 0, .null, .null] j := lt_s h39 rfl
  have h41 : ∀ j, j < 41 → defaultValue (tyX11 j) = vp_V [.int 0, .null, .int 0, .int 0, .null, .null, .null, .int 0, .null, .null, .null, .null, .null, .null, .int 0, .null, .null, .null, .int 0, .null, .null, .null, .null, .null, .null, .null, .null, .null, .null, .null, .null, .null, .int 0, .null, .null, .null, .null, .int 0, .int 0, .int 0, .int 0, .int 0, .null, .int 0, .null, .null, .null, .null, .null, .int 0, .null, .null] j := lt_s h40 rfl
  have h42 : ∀ j, j < 42 → defaultValue (tyX11 j) = vp_V [.int 0, .null, .int 0, .int 0, .null, .null, .null, .int 0, .null, .null, .null, .null, .null, .null, .int 0, .null, .null, .null, .int 0, .null, .null, .null, .null, .null, .null, .null, .null, .null, .null, .null, .null, .null, .int 0, .null, .null, .null, .null, .int 0, .int 0, .int 0, .int 0, .int 0, .null, .int 0, .null, .null, .null, .null, .null, .int 0, .null, .null] j := lt_s h41 rfl
  have h43 : ∀ j, j < 43 → defaultValue (tyX11 j) = vp_V [.int 0, .null, .int 0, .int 0, .null, .null, .null, .int 0, .null, .null, .null, .null, .null, .null, .int 0, .null, .null, .null, .int 0, .null, .null, .null, .null, .null, .null, .null, .null, .null, .null, .null, .null, .null, .int 0, .null, .null, .null, .null, .int 0, .int 0, .int 0, .int 0, .int 0, .null, .int 0, .null, .null, .null, .null, .null, .int 0, .null, .null] j := lt_s h42 rfl
  have h44 : ∀ j, j < 44 → defaultValue (tyX11 j) = vp_V [.int 0, .null, .int 0, .int 0, .null, .null, .null, .int 0, .null, .null, .null, .null, .null, .null, .int 0, .null, .null, .null, .int 0, .null, .null, .null, .null, .null, .null, .null, .null, .null, .null, .null, .null, .null, .int 0, .null, .null, .null, .null, .int 0, .int 0, .int 0, .int 0, .int 0, .null, .int 0, .null, .null, .null, .null, .null, .int 0, .null, .null] j := lt_s h43 rfl
  have h45 : ∀ j, j < 45 → defaultValue (tyX11 j) = vp_V [.int 0, .null, .int 0, .int 0, .null, .null, .null, .int 0, .null, .null, .null, .null, .null, .null, .int 0, .null, .null, .null, .int 0, .null, .null, .null, .null, .null, .null, .null, .null, .null, .null, .null, .null, .null, .int 0, .null, .null, .null, .null, .int 0, .int 0, .int 0, .int 0, .int 0, .null, .int 0, .null, .null, .null, .null, .null, .int 0, .null, .null] j := lt_s h44 rfl
  have h46 : ∀ j, j < 46 → defaultValue (tyX11 j) = vp_V [.int 0, .null, .int 0, .int 0, .null, .null, .null, .int 0, .null, .null, .null, .null, .null, .null, .int 0, .null, .null, .null, .int 0, .null, .null, .null, .null, .null, .null, .null, .null, .null, .null, .null, .null, .null, .int 0, .null, .null, .null, .null, .int 0, .int 0, .int 0, .int 0, .int 0, .null, .int 0, .null, .null, .null, .null, .null, .int 0, .null, .null] j := lt_s h45 rfl
  have h47 : ∀ j, j < 47 → defaultValue (tyX11 j) = vp_V [.int 0, .null, .int 0, .int 0, .null, .null, .null, .int 0, .null, .null, .null, .null, .null, .null, .int 0, .null, .null, .null, .int 0, .null, .null, .null, .null, .null, .null, .null, .null, .null, .null, .null, .null, .null, .int 0, .null, .null, .null, .null, .int 0, .int 0, .int 0, .int 0, .int 0, .null, .int 0, .null, .null, .null, .null, .null, .int 0, .null, .null] j := lt_s h46 rfl
  have h48 : ∀ j, j < 48 → defaultValue (tyX11 j) = vp_V [.int 0, .null, .int 0, .int 0, .null, .null, .null, .int 0, .null, .null, .null, .null, .null, .null, .int 0, .null, .null, .null, .int 0, .null, .null, .null, .null, .null, .null, .null, .null, .null, .null, .null, .null, .null, .int 0, .null, .null, .null, .null, .int 0, .int 0, .int 0, .int 0, .int 0, .null, .int 0, .null, .null, .null, .null, .null, .int 0, .null, .null] j := lt_s h47 rfl
  have h49 : ∀ j, j < 49 → defaultValue (tyX11 j) = vp_V [.int 0, .null, .int 0, .int 0, .null, .null, .null, .int 0, .null, .null, .null, .null, .null, .null, .int 0, .null, .null, .null, .int 0, .null, .null, .null, .null, .null, .null, .null, .null, .null, .null, .null, .null, .null, .int 0, .null, .null, .null, .null, .int 0, .int 0, .int 0, .int 0, .int 0, .null, .int 0, .null, .null, .null, .null, .null, .int 0, .null, .null] j := lt_s h48 rfl
  have h50 : ∀ j, j < 50 → defaultValue (tyX11 j) = vp_V [.int 0, .null, .int 0, .int 0, .null, .null, .null, .int 0, .null, .null, .null, .null, .null, .null, .int 0, .null, .null, .null, .int 0, .null, .null, .null, .null, .null, .null, .null, .null, .null, .null, .null, .null, .null, .int 0, .null, .null, .null, .null, .int 0, .int 0, .int 0, .int 0, .int 0, .null, .int 0, .null, .null, .null, .null, .null, .int 0, .null, .null] j := lt_s h49 rfl
  have h51 : ∀ j, j < 51 → defaultValue (tyX11 j) = vp_V [.int 0, .null, .int 0, .int 0, .null, .null, .null, .int 0, .null, .null, .null, .null, .null, .null, .int 0, .null, .null, .null, .int 0, .null, .null, .null, .null, .null, .null, .null, .null, .null, .null, .null, .null, .null, .int 0, .null, .null, .null, .null, .int 0, .int 0, .int 0, .int 0, .int 0, .null, .int 0, .null, .null, .null, .null, .null, .int 0, .null, .null] j := lt_s h50 rfl
  have h52 : ∀ j, j < 52 → defaultValue (tyX11 j) = vp_V [.int 0, .null, .int 0, .int 0, .null, .null, .null, .int 0, .null, .null, .null, .null, .null, .null, .int 0, .null, .null, .null, .int 0, .null, .null, .null, .null, .null, .null, .null, .null, .null, .null, .null, .null, .null, .int 0, .null, .null, .null, .null, .int 0, .int 0, .int 0, .int 0, .int 0, .null, .int 0, .null, .null, .null, .null, .null, .int 0, .null, .null] j := lt_s h51 rfl
  exact h52
def gd_nestI : List (String × Nat × MethodName) := [(RX10, 11, yX8_init), (RX10, 27, yX1_init), (RX10, 34, yX5_init), (RX10, 50, yX0_init), (RX10, 57, yX7_init), (RX10, 64, yX9_init), (RX10, 71, yX3_init)]
theorem ab_joinL {A : Nat → Prop} {D : va_G} {cl : List vw_C} {ws w1 : va_W} {x : Nat × va_E} {H H1 : Heap} (hP : va_P D cl (ws ++ [x]) H) (hD : va_D A (ws ++ [x])) (hk : ∀ q : Nat, q < H.size → ¬ va_A [x] H.size q → H1[q]? = H[q]?) (hF : ∀ q, va_A [x] H.size q → A q) (hP1 : va_P D cl w1 H1) (hD1 : va_D (va_A [x] H.size) w1) : va_P D cl (ws ++ w1) H1 ∧ va_D A (ws ++ w1) := by
  refine va_join (wr := ws) (wc := [x]) hP hD [ws.length] (List.range ws.length) ?_ ?_ ?_ ?_ hk hF hP1 hD1
  · simp
  · apply List.ext_getElem?
    intro i
    rw [List.getElem?_map, List.getElem?_map]
    by_cases hi : i < ws.length
    · rw [List.getElem?_range hi]
      simp [List.getElem?_append_left hi, hi]
    · rw [List.getElem?_eq_none (by simpa using hi), List.getElem?_eq_none (by simpa using hi)]
      rfl
  · generalize ws.length = n
    have key : ∀ l : List Nat, l.Pairwise (· ≠ ·) → va_nd l = true := by
      intro l hl
      induction l with
      | nil => rfl
      | cons a l ih =>
        rw [List.pairwise_cons] at hl
        simp only [va_nd, Bool.and_eq_true, decide_eq_true_eq]
        exact ⟨fun h => hl.1 a h rfl, ih hl.2⟩
    refine key _ ?_
    have := List.pairwise_lt_range (n := n)
    exact this.imp (fun h => Nat.ne_of_lt h)
  · intro i hi h2
    have := List.mem_range.mp hi
    rw [List.mem_singleton] at h2
    omega
set_option maxRecDepth 20000 in
set_option maxHeartbeats 4000000 in
theorem ct_X8 (l : Launch) (D : va_G) (cy : Nat → ClassId) (h0 sz : Nat) : Met l yX8_init (.code yX8_init cX8_init 1 none :: uw) { frames := 1, cells := 1, slots := 200, locals := 12 } (va_Pc [.ref h0] (fun U => U.heap.size = sz ∧ va_P D vwCl [(h0, .inr (8, [.null, .int 0]))] U.heap ∧ va_K D vwCl (ab_tys cy) U ∧ va_D (fun _ => True) [(h0, .inr (8, [.null, .int 0]))])) (va_Qv (fun _ : Unit => True) (fun _ t => ∃ (q0 : Nat), va_P D vwCl [(h0, .inr (8, [.ref q0, .int 0])), (q0, .inl (cy 0, 200, .inl (fun _ => 0)))] t.heap ∧ va_K D vwCl (ab_tys cy) t ∧ va_D (va_A [(h0, .inr (8, [.null, .int 0]))] sz) [(h0, .inr (8, [.ref q0, .int 0])), (q0, .inl (cy 0, 200, .inl (fun _ => 0)))]) (va_A [(h0, .inr (8, [.null, .int 0]))] sz)) 1 200 (va_A [(h0, .inr (8, [.null, .int 0]))] sz) := by
  refine Met.ofW (cc := cX8_init) (maxL := 1) (ret := none) (by decide +kernel) rfl ?_
  intro p e s m args below meth c s₁ B hml hv
  obtain ⟨rfl, hsz, hP, hK, hD0⟩ := hv
  subst hsz
  have hD := hD0.self (sz := s.heap.size)
  generalize hAe : va_A [(h0, .inr (8, [.null, .int 0]))] s.heap.size = A at hD ⊢
  have hA : ∀ q : Nat, s.heap.size ≤ q → A q := fun q h => by rw [← hAe]; exact Or.inr h
  have hx := B.exec
  have hb : c.code = cX8_init := B.bytes
  have hr := B.returns
  have hlocks := B.notSynchronized
  have hini : meth.name = "<init>" := (name_of_methodNamed B.named B.method).1
  have hts := atoms_spec (ws := (Cond.code yX8_init cX8_init 1 none :: uw)) B.pre
  have hin : ∀ w ∈ uw, w.before ([Value.ref h0] : List Value).toArray s = true := fun w hw => hts w (List.mem_cons_of_mem _ hw)
  have hinX : ∀ w ∈ u_ws RX8 TX8 2, w ∈ (Cond.code yX8_init cX8_init 1 none :: uw) := fun w hw => List.mem_cons_of_mem _ (in_X8 w hw)
  have hown : s.vm.findClass RX8 = some m.cls := findClass_of_methodNamed B.named
  have hS : va_S A s.heap s.heap [] := va_S.rf
  have hl := lv_entry ([.ref h0]) (n := 1) (Nat.le_of_ble_eq_true rfl)
  rw [lg_entry_eq]
  generalize (lg_sl ([.ref h0]) ++ List.replicate (1 - (lg_sl ([.ref h0])).length) Slot.unset).toArray = ls at hl ⊢
  have hl : lv_has ls 1 [(0, .ref h0)] := hl
  obtain ⟨H, hH⟩ : ∃ H, H = s.heap := ⟨_, rfl⟩
  rw [← hH] at hP
  have hS : va_S A s.heap H [] := by rw [hH]; exact hS
  show W p l e _ s m _ below meth c s.heap [] 0 0 _ _
  rw [← hH]
  refine lv_aload_n (k := 0) hx hb (by decide +kernel) rfl (lv_at hl 0 rfl) ?_
  refine W.objInit hx hb hown (hin _ uw_82) (hin _ uw_75) (hin _ uw_76) rfl (by rw [hml]; exact hl.1) rfl (show decode cX8_init 1 = _ from by decide +kernel) (Nat.le_of_ble_eq_true rfl) (Nat.le_of_ble_eq_true rfl) ?_
  refine W.eq (g2 := F0 m 4 ls []) rfl ?_
  refine lv_aload_n (k := 0) hx hb (by decide +kernel) rfl (lv_at hl 0 rfl) ?_
  refine lv_sipush (n := 200) (v := 200) hx hb (by decide +kernel) (by decide) ?_
  refine va_newa (atype := .int) (ty := .int) (N' := 200) (a0 := (200, .inl (fun _ => 0))) hx hb (hin _ uw_90) rfl hK hP hD hS hA (fun _ => rfl) (by decide) (by decide) (by decide) (Nat.le_of_ble_eq_true rfl) (Nat.le_of_ble_eq_true rfl) (by decide +kernel) (fun q0 cA H hK1 hP hD hS => ?_)
  have ec : cA = cy 0 := ab_cls (i := 3) (j := 0) (by intro C h; cases h) hK1 rfl rfl
  subst ec
  have hP : va_P D vwCl [(h0, .inr (8, [.null, .int 0])), (q0, .inl (cy 0, 200, .inl (fun _ => 0)))] H := hP
  have hD : va_D A [(h0, .inr (8, [.null, .int 0])), (q0, .inl (cy 0, 200, .inl (fun _ => 0)))] := hD
  refine va_putF (D := D) (v := .ref q0) (ty := .array .int) (C := RX8) (T := TX8) (N := 2) (ref := "GrainDole$Tape") hx hb hts hinX tyX8 tyX8_ok nmX8 hown hK hP hD hS 0 rfl rfl 0 (by decide) (hin _ uw_83) (fun _ h9 => h9) rfl hini rfl (by decide +kernel) rfl rfl (Nat.le_of_ble_eq_true rfl) (by decide +kernel) (fun H locs hP hD hS => ?_)
  have hP : va_P D vwCl [(h0, .inr (8, [.ref q0, .int 0])), (q0, .inl (cy 0, 200, .inl (fun _ => 0)))] H := hP
  have hD : va_D A [(h0, .inr (8, [.ref q0, .int 0])), (q0, .inl (cy 0, 200, .inl (fun _ => 0)))] := hD
  refine lv_aload_n (k := 0) hx hb (by decide +kernel) rfl (lv_at hl 0 rfl) ?_
  refine lv_iconst (n := 0) (v := 0) hx hb (by decide +kernel) (by decide) ?_
  refine va_put (D := D) (v := .int 0) (ty := .int) (C := RX8) (T := TX8) (N := 2) (ref := "GrainDole$Tape") hx hb hts hinX tyX8 tyX8_ok nmX8 hown hK hP hD hS 0 rfl rfl 1 (by decide) (hin _ uw_84) (fun _ h9 => h9) rfl (by decide +kernel) rfl rfl (Nat.le_of_ble_eq_true rfl) (by decide +kernel) (fun H locs hP hD hS => ?_)
  have hP : va_P D vwCl [(h0, .inr (8, [.ref q0, .int 0])), (q0, .inl (cy 0, 200, .inl (fun _ => 0)))] H := hP
  have hD : va_D A [(h0, .inr (8, [.ref q0, .int 0])), (q0, .inl (cy 0, 200, .inl (fun _ => 0)))] := hD
  refine W.widen (k := 1) (n := 200) (Nat.le_of_ble_eq_true rfl) (Nat.le_of_ble_eq_true rfl) ?_
  exact W.vret hx hb hr (fun t ht hW => ⟨⟨(), rfl, trivial, q0, by rw [ht]; exact hP, va_K.moved hW.alike hK, hD⟩, hS.F ht⟩) hS.2.2 (by decide +kernel)
set_option maxRecDepth 20000 in
set_option maxHeartbeats 4000000 in
theorem ct_X2 (l : Launch) (D : va_G) (cy : Nat → ClassId) (h0 sz r0 : Nat) : Met l yX2_init (.code yX2_init cX2_init 2 none :: uw) { frames := 1, cells := 2, slots := 20, locals := 12 } (va_Pc [.ref h0, .ref r0] (fun U => U.heap.size = sz ∧ va_P D vwCl [(h0, .inr (2, [.null, .null, .null, .int 0, .int 0, .int 0]))] U.heap ∧ va_K D vwCl (ab_tys cy) U ∧ va_D (fun _ => True) [(h0, .inr (2, [.null, .null, .null, .int 0, .int 0, .int 0]))])) (va_Qv (fun _ : Unit => True) (fun _ t => ∃ (q0 q1 : Nat), va_P D vwCl [(h0, .inr (2, [.ref r0, .ref q0, .ref q1, .int 0, .int 0, .int 0])), (q0, .inl (cy 0, 10, .inl (fun _ => 0))), (q1, .inl (cy 1, 10, .inl (fun _ => 0)))] t.heap ∧ va_K D vwCl (ab_tys cy) t ∧ va_D (va_A [(h0, .inr (2, [.null, .null, .null, .int 0, .int 0, .int 0]))] sz) [(h0, .inr (2, [.ref r0, .ref q0, .ref q1, .int 0, .int 0, .int 0])), (q0, .inl (cy 0, 10, .inl (fun _ => 0))), (q1, .inl (cy 1, 10, .inl (fun _ => 0)))]) (va_A [(h0, .inr (2, [.null, .null, .null, .int 0, .int 0, .int 0]))] sz)) 2 20 (va_A [(h0, .inr (2, [.null, .null, .null, .int 0, .int 0, .int 0]))] sz) := by
  refine Met.ofW (cc := cX2_init) (maxL := 2) (ret := none) (by decide +kernel) rfl ?_
  intro p e s m args below meth c s₁ B hml hv
  obtain ⟨rfl, hsz, hP, hK, hD0⟩ := hv
  subst hsz
  have hD := hD0.self (sz := s.heap.size)
  generalize hAe : va_A [(h0, .inr (2, [.null, .null, .null, .int 0, .int 0, .int 0]))] s.heap.size = A at hD ⊢
  have hA : ∀ q : Nat, s.heap.size ≤ q → A q := fun q h => by rw [← hAe]; exact Or.inr h
  have hx := B.exec
  have hb : c.code = cX2_init := B.bytes
  have hr := B.returns
  have hlocks := B.notSynchronized
  have hini : meth.name = "<init>" := (name_of_methodNamed B.named B.method).1
  have hts := atoms_spec (ws := (Cond.code yX2_init cX2_init 2 none :: uw)) B.pre
  have hin : ∀ w ∈ uw, w.before ([Value.ref h0, Value.ref r0] : List Value).toArray s = true := fun w hw => hts w (List.mem_cons_of_mem _ hw)
  have hinX : ∀ w ∈ u_ws RX2 TX2 6, w ∈ (Cond.code yX2_init cX2_init 2 none :: uw) := fun w hw => List.mem_cons_of_mem _ (in_X2 w hw)
  have hown : s.vm.findClass RX2 = some m.cls := findClass_of_methodNamed B.named
  have hS : va_S A s.heap s.heap [] := va_S.rf
  have hl := lv_entry ([.ref h0, .ref r0]) (n := 2) (Nat.le_of_ble_eq_true rfl)
  rw [lg_entry_eq]
  generalize (lg_sl ([.ref h0, .ref r0]) ++ List.replicate (2 - (lg_sl ([.ref h0, .ref r0])).length) Slot.unset).toArray = ls at hl ⊢
  have hl : lv_has ls 2 [(0, .ref h0), (1, .ref r0)] := hl
  obtain ⟨H, hH⟩ : ∃ H, H = s.heap := ⟨_, rfl⟩
  rw [← hH] at hP
  have hS : va_S A s.heap H [] := by rw [hH]; exact hS
  show W p l e _ s m _ below meth c s.heap [] 0 0 _ _
  rw [← hH]
  refine lv_aload_n (k := 0) hx hb (by decide +kernel) rfl (lv_at hl 0 rfl) ?_
  refine W.objInit hx hb hown (hin _ uw_96) (hin _ uw_75) (hin _ uw_76) rfl (by rw [hml]; exact hl.1) rfl (show decode cX2_init 1 = _ from by decide +kernel) (Nat.le_of_ble_eq_true rfl) (Nat.le_of_ble_eq_true rfl) ?_
  refine W.eq (g2 := F0 m 4 ls []) rfl ?_
  refine lv_aload_n (k := 0) hx hb (by decide +kernel) rfl (lv_at hl 0 rfl) ?_
  refine lv_bipush (n := 10) (v := 10) hx hb (by decide +kernel) (by decide) ?_
  refine va_newa (atype := .int) (ty := .int) (N' := 10) (a0 := (10, .inl (fun _ => 0))) hx hb (hin _ uw_90) rfl hK hP hD hS hA (fun _ => rfl) (by decide) (by decide) (by decide) (Nat.le_of_ble_eq_true rfl) (Nat.le_of_ble_eq_true rfl) (by decide +kernel) (fun q0 cA H hK1 hP hD hS => ?_)
  have ec : cA = cy 0 := ab_cls (i := 3) (j := 0) (by intro C h; cases h) hK1 rfl rfl
  subst ec
  have hP : va_P D vwCl [(h0, .inr (2, [.null, .null, .null, .int 0, .int 0, .int 0])), (q0, .inl (cy 0, 10, .inl (fun _ => 0)))] H := hP
  have hD : va_D A [(h0, .inr (2, [.null, .null, .null, .int 0, .int 0, .int 0])), (q0, .inl (cy 0, 10, .inl (fun _ => 0)))] := hD
  refine va_putF (D := D) (v := .ref q0) (ty := .array .int) (C := RX2) (T := TX2) (N := 6) (ref := "GrainDole$LawReader") hx hb hts hinX tyX2 tyX2_ok nmX2 hown hK hP hD hS 0 rfl rfl 1 (by decide) (hin _ uw_98) (fun _ h9 => h9) rfl hini rfl (by decide +kernel) rfl rfl (Nat.le_of_ble_eq_true rfl) (by decide +kernel) (fun H locs hP hD hS => ?_)
  have hP : va_P D vwCl [(h0, .inr (2, [.null, .ref q0, .null, .int 0, .int 0, .int 0])), (q0, .inl (cy 0, 10, .inl (fun _ => 0)))] H := hP
  have hD : va_D A [(h0, .inr (2, [.null, .ref q0, .null, .int 0, .int 0, .int 0])), (q0, .inl (cy 0, 10, .inl (fun _ => 0)))] := hD
  refine lv_aload_n (k := 0) hx hb (by decide +kernel) rfl (lv_at hl 0 rfl) ?_
  refine lv_bipush (n := 10) (v := 10) hx hb (by decide +kernel) (by decide) ?_
  refine va_newa (atype := .boolean) (ty := .boolean) (N' := 10) (a0 := (10, .inl (fun _ => 0))) hx hb (hin _ uw_116) rfl hK hP hD hS hA (fun _ => rfl) (by decide) (by decide) (by decide) (Nat.le_of_ble_eq_true rfl) (Nat.le_of_ble_eq_true rfl) (by decide +kernel) (fun q1 cA H hK1 hP hD hS => ?_)
  have ec : cA = cy 1 := ab_cls (i := 3) (j := 1) (by intro C h; cases h) hK1 rfl rfl
  subst ec
  have hP : va_P D vwCl [(h0, .inr (2, [.null, .ref q0, .null, .int 0, .int 0, .int 0])), (q0, .inl (cy 0, 10, .inl (fun _ => 0))), (q1, .inl (cy 1, 10, .inl (fun _ => 0)))] H := hP
  have hD : va_D A [(h0, .inr (2, [.null, .ref q0, .null, .int 0, .int 0, .int 0])), (q0, .inl (cy 0, 10, .inl (fun _ => 0))), (q1, .inl (cy 1, 10, .inl (fun _ => 0)))] := hD
  refine va_putF (D := D) (v := .ref q1) (ty := .array .boolean) (C := RX2) (T := TX2) (N := 6) (ref := "GrainDole$LawReader") hx hb hts hinX tyX2 tyX2_ok nmX2 hown hK hP hD hS 0 rfl rfl 2 (by decide) (hin _ uw_99) (fun _ h9 => h9) rfl hini rfl (by decide +kernel) rfl rfl (Nat.le_of_ble_eq_true rfl) (by decide +kernel) (fun H locs hP hD hS => ?_)
  have hP : va_P D vwCl [(h0, .inr (2, [.null, .ref q0, .ref q1, .int 0, .int 0, .int 0])), (q0, .inl (cy 0, 10, .inl (fun _ => 0))), (q1, .inl (cy 1, 10, .inl (fun _ => 0)))] H := hP
  have hD : va_D A [(h0, .inr (2, [.null, .ref q0, .ref q1, .int 0, .int 0, .int 0])), (q0, .inl (cy 0, 10, .inl (fun _ => 0))), (q1, .inl (cy 1, 10, .inl (fun _ => 0)))] := hD
  refine lv_aload_n (k := 0) hx hb (by decide +kernel) rfl (lv_at hl 0 rfl) ?_
  refine lv_iconst (n := 0) (v := 0) hx hb (by decide +kernel) (by decide) ?_
  refine va_put (D := D) (v := .int 0) (ty := .int) (C := RX2) (T := TX2) (N := 6) (ref := "GrainDole$LawReader") hx hb hts hinX tyX2 tyX2_ok nmX2 hown hK hP hD hS 0 rfl rfl 3 (by decide) (hin _ uw_100) (fun _ h9 => h9) rfl (by decide +kernel) rfl rfl (Nat.le_of_ble_eq_true rfl) (by decide +kernel) (fun H locs hP hD hS => ?_)
  have hP : va_P D vwCl [(h0, .inr (2, [.null, .ref q0, .ref q1, .int 0, .int 0, .int 0])), (q0, .inl (cy 0, 10, .inl (fun _ => 0))), (q1, .inl (cy 1, 10, .inl (fun _ => 0)))] H := hP
  have hD : va_D A [(h0, .inr (2, [.null, .ref q0, .ref q1, .int 0, .int 0, .int 0])), (q0, .inl (cy 0, 10, .inl (fun _ => 0))), (q1, .inl (cy 1, 10, .inl (fun _ => 0)))] := hD
  refine lv_aload_n (k := 0) hx hb (by decide +kernel) rfl (lv_at hl 0 rfl) ?_
  refine lv_iconst (n := 0) (v := 0) hx hb (by decide +kernel) (by decide) ?_
  refine va_put (D := D) (v := .int 0) (ty := .int) (C := RX2) (T := TX2) (N := 6) (ref := "GrainDole$LawReader") hx hb hts hinX tyX2 tyX2_ok nmX2 hown hK hP hD hS 0 rfl rfl 4 (by decide) (hin _ uw_101) (fun _ h9 => h9) rfl (by decide +kernel) rfl rfl (Nat.le_of_ble_eq_true rfl) (by decide +kernel) (fun H locs hP hD hS => ?_)
  have hP : va_P D vwCl [(h0, .inr (2, [.null, .ref q0, .ref q1, .int 0, .int 0, .int 0])), (q0, .inl (cy 0, 10, .inl (fun _ => 0))), (q1, .inl (cy 1, 10, .inl (fun _ => 0)))] H := hP
  have hD : va_D A [(h0, .inr (2, [.null, .ref q0, .ref q1, .int 0, .int 0, .int 0])), (q0, .inl (cy 0, 10, .inl (fun _ => 0))), (q1, .inl (cy 1, 10, .inl (fun _ => 0)))] := hD
  refine lv_aload_n (k := 0) hx hb (by decide +kernel) rfl (lv_at hl 0 rfl) ?_
  refine lv_iconst (n := 0) (v := 0) hx hb (by decide +kernel) (by decide) ?_
  refine va_put (D := D) (v := .int 0) (ty := .int) (C := RX2) (T := TX2) (N := 6) (ref := "GrainDole$LawReader") hx hb hts hinX tyX2 tyX2_ok nmX2 hown hK hP hD hS 0 rfl rfl 5 (by decide) (hin _ uw_102) (fun _ h9 => h9) rfl (by decide +kernel) rfl rfl (Nat.le_of_ble_eq_true rfl) (by decide +kernel) (fun H locs hP hD hS => ?_)
  have hP : va_P D vwCl [(h0, .inr (2, [.null, .ref q0, .ref q1, .int 0, .int 0, .int 0])), (q0, .inl (cy 0, 10, .inl (fun _ => 0))), (q1, .inl (cy 1, 10, .inl (fun _ => 0)))] H := hP
  have hD : va_D A [(h0, .inr (2, [.null, .ref q0, .ref q1, .int 0, .int 0, .int 0])), (q0, .inl (cy 0, 10, .inl (fun _ => 0))), (q1, .inl (cy 1, 10, .inl (fun _ => 0)))] := hD
  refine lv_aload_n (k := 0) hx hb (by decide +kernel) rfl (lv_at hl 0 rfl) ?_
  refine lv_aload_n (k := 1) hx hb (by decide +kernel) rfl (lv_at hl 1 rfl) ?_
  refine va_putF (D := D) (v := .ref r0) (ty := .object "GrainDole$Tape") (C := RX2) (T := TX2) (N := 6) (ref := "GrainDole$LawReader") hx hb hts hinX tyX2 tyX2_ok nmX2 hown hK hP hD hS 0 rfl rfl 0 (by decide) (hin _ uw_97) (fun _ h9 => h9) rfl hini rfl (by decide +kernel) rfl rfl (Nat.le_of_ble_eq_true rfl) (by decide +kernel) (fun H locs hP hD hS => ?_)
  have hP : va_P D vwCl [(h0, .inr (2, [.ref r0, .ref q0, .ref q1, .int 0, .int 0, .int 0])), (q0, .inl (cy 0, 10, .inl (fun _ => 0))), (q1, .inl (cy 1, 10, .inl (fun _ => 0)))] H := hP
  have hD : va_D A [(h0, .inr (2, [.ref r0, .ref q0, .ref q1, .int 0, .int 0, .int 0])), (q0, .inl (cy 0, 10, .inl (fun _ => 0))), (q1, .inl (cy 1, 10, .inl (fun _ => 0)))] := hD
  refine W.widen (k := 2) (n := 20) (Nat.le_of_ble_eq_true rfl) (Nat.le_of_ble_eq_true rfl) ?_
  exact W.vret hx hb hr (fun t ht hW => ⟨⟨(), rfl, trivial, q0, q1, by rw [ht]; exact hP, va_K.moved hW.alike hK, hD⟩, hS.F ht⟩) hS.2.2 (by decide +kernel)
set_option maxRecDepth 20000 in
set_option maxHeartbeats 4000000 in
theorem ct_X1 (l : Launch) (D : va_G) (cy : Nat → ClassId) (h0 sz : Nat) : Met l yX1_init (.code yX1_init cX1_init 1 none :: uw) { frames := 1, cells := 3, slots := 96, locals := 12 } (va_Pc [.ref h0] (fun U => U.heap.size = sz ∧ va_P D vwCl [(h0, .inr (1, [.null, .null, .null, .int 0]))] U.heap ∧ va_K D vwCl (ab_tys cy) U ∧ va_D (fun _ => True) [(h0, .inr (1, [.null, .null, .null, .int 0]))])) (va_Qv (fun _ : Unit => True) (fun _ t => ∃ (q0 q1 q2 : Nat), va_P D vwCl [(h0, .inr (1, [.ref q0, .ref q1, .ref q2, .int 0])), (q0, .inl (cy 0, 80, .inl (fun _ => 0))), (q1, .inl (cy 0, 8, .inl (fun _ => 0))), (q2, .inl (cy 0, 8, .inl (fun _ => 0)))] t.heap ∧ va_K D vwCl (ab_tys cy) t ∧ va_D (va_A [(h0, .inr (1, [.null, .null, .null, .int 0]))] sz) [(h0, .inr (1, [.ref q0, .ref q1, .ref q2, .int 0])), (q0, .inl (cy 0, 80, .inl (fun _ => 0))), (q1, .inl (cy 0, 8, .inl (fun _ => 0))), (q2, .inl (cy 0, 8, .inl (fun _ => 0)))]) (va_A [(h0, .inr (1, [.null, .null, .null, .int 0]))] sz)) 3 96 (va_A [(h0, .inr (1, [.null, .null, .null, .int 0]))] sz) := by
  refine Met.ofW (cc := cX1_init) (maxL := 1) (ret := none) (by decide +kernel) rfl ?_
  intro p e s m args below meth c s₁ B hml hv
  obtain ⟨rfl, hsz, hP, hK, hD0⟩ := hv
  subst hsz
  have hD := hD0.self (sz := s.heap.size)
  generalize hAe : va_A [(h0, .inr (1, [.null, .null, .null, .int 0]))] s.heap.size = A at hD ⊢
  have hA : ∀ q : Nat, s.heap.size ≤ q → A q := fun q h => by rw [← hAe]; exact Or.inr h
  have hx := B.exec
  have hb : c.code = cX1_init := B.bytes
  have hr := B.returns
  have hlocks := B.notSynchronized
  have hini : meth.name = "<init>" := (name_of_methodNamed B.named B.method).1
  have hts := atoms_spec (ws := (Cond.code yX1_init cX1_init 1 none :: uw)) B.pre
  have hin : ∀ w ∈ uw, w.before ([Value.ref h0] : List Value).toArray s = true := fun w hw => hts w (List.mem_cons_of_mem _ hw)
  have hinX : ∀ w ∈ u_ws RX1 TX1 4, w ∈ (Cond.code yX1_init cX1_init 1 none :: uw) := fun w hw => List.mem_cons_of_mem _ (in_X1 w hw)
  have hown : s.vm.findClass RX1 = some m.cls := findClass_of_methodNamed B.named
  have hS : va_S A s.heap s.heap [] := va_S.rf
  have hl := lv_entry ([.ref h0]) (n := 1) (Nat.le_of_ble_eq_true rfl)
  rw [lg_entry_eq]
  generalize (lg_sl ([.ref h0]) ++ List.replicate (1 - (lg_sl ([.ref h0])).length) Slot.unset).toArray = ls at hl ⊢
  have hl : lv_has ls 1 [(0, .ref h0)] := hl
  obtain ⟨H, hH⟩ : ∃ H, H = s.heap := ⟨_, rfl⟩
  rw [← hH] at hP
  have hS : va_S A s.heap H [] := by rw [hH]; exact hS
  show W p l e _ s m _ below meth c s.heap [] 0 0 _ _
  rw [← hH]
  refine lv_aload_n (k := 0) hx hb (by decide +kernel) rfl (lv_at hl 0 rfl) ?_
  refine W.objInit hx hb hown (hin _ uw_122) (hin _ uw_75) (hin _ uw_76) rfl (by rw [hml]; exact hl.1) rfl (show decode cX1_init 1 = _ from by decide +kernel) (Nat.le_of_ble_eq_true rfl) (Nat.le_of_ble_eq_true rfl) ?_
  refine W.eq (g2 := F0 m 4 ls []) rfl ?_
  refine lv_aload_n (k := 0) hx hb (by decide +kernel) rfl (lv_at hl 0 rfl) ?_
  refine lv_bipush (n := 80) (v := 80) hx hb (by decide +kernel) (by decide) ?_
  refine va_newa (atype := .int) (ty := .int) (N' := 80) (a0 := (80, .inl (fun _ => 0))) hx hb (hin _ uw_90) rfl hK hP hD hS hA (fun _ => rfl) (by decide) (by decide) (by decide) (Nat.le_of_ble_eq_true rfl) (Nat.le_of_ble_eq_true rfl) (by decide +kernel) (fun q0 cA H hK1 hP hD hS => ?_)
  have ec : cA = cy 0 := ab_cls (i := 3) (j := 0) (by intro C h; cases h) hK1 rfl rfl
  subst ec
  have hP : va_P D vwCl [(h0, .inr (1, [.null, .null, .null, .int 0])), (q0, .inl (cy 0, 80, .inl (fun _ => 0)))] H := hP
  have hD : va_D A [(h0, .inr (1, [.null, .null, .null, .int 0])), (q0, .inl (cy 0, 80, .inl (fun _ => 0)))] := hD
  refine va_putF (D := D) (v := .ref q0) (ty := .array .int) (C := RX1) (T := TX1) (N := 4) (ref := "GrainDole$LawBook") hx hb hts hinX tyX1 tyX1_ok nmX1 hown hK hP hD hS 0 rfl rfl 0 (by decide) (hin _ uw_123) (fun _ h9 => h9) rfl hini rfl (by decide +kernel) rfl rfl (Nat.le_of_ble_eq_true rfl) (by decide +kernel) (fun H locs hP hD hS => ?_)
  have hP : va_P D vwCl [(h0, .inr (1, [.ref q0, .null, .null, .int 0])), (q0, .inl (cy 0, 80, .inl (fun _ => 0)))] H := hP
  have hD : va_D A [(h0, .inr (1, [.ref q0, .null, .null, .int 0])), (q0, .inl (cy 0, 80, .inl (fun _ => 0)))] := hD
  refine lv_aload_n (k := 0) hx hb (by decide +kernel) rfl (lv_at hl 0 rfl) ?_
  refine lv_bipush (n := 8) (v := 8) hx hb (by decide +kernel) (by decide) ?_
  refine va_newa (atype := .int) (ty := .int) (N' := 8) (a0 := (8, .inl (fun _ => 0))) hx hb (hin _ uw_90) rfl hK hP hD hS hA (fun _ => rfl) (by decide) (by decide) (by decide) (Nat.le_of_ble_eq_true rfl) (Nat.le_of_ble_eq_true rfl) (by decide +kernel) (fun q1 cA H hK1 hP hD hS => ?_)
  have ec : cA = cy 0 := ab_cls (i := 3) (j := 0) (by intro C h; cases h) hK1 rfl rfl
  subst ec
  have hP : va_P D vwCl [(h0, .inr (1, [.ref q0, .null, .null, .int 0])), (q0, .inl (cy 0, 80, .inl (fun _ => 0))), (q1, .inl (cy 0, 8, .inl (fun _ => 0)))] H := hP
  have hD : va_D A [(h0, .inr (1, [.ref q0, .null, .null, .int 0])), (q0, .inl (cy 0, 80, .inl (fun _ => 0))), (q1, .inl (cy 0, 8, .inl (fun _ => 0)))] := hD
  refine va_putF (D := D) (v := .ref q1) (ty := .array .int) (C := RX1) (T := TX1) (N := 4) (ref := "GrainDole$LawBook") hx hb hts hinX tyX1 tyX1_ok nmX1 hown hK hP hD hS 0 rfl rfl 1 (by decide) (hin _ uw_124) (fun _ h9 => h9) rfl hini rfl (by decide +kernel) rfl rfl (Nat.le_of_ble_eq_true rfl) (by decide +kernel) (fun H locs hP hD hS => ?_)
  have hP : va_P D vwCl [(h0, .inr (1, [.ref q0, .ref q1, .null, .int 0])), (q0, .inl (cy 0, 80, .inl (fun _ => 0))), (q1, .inl (cy 0, 8, .inl (fun _ => 0)))] H := hP
  have hD : va_D A [(h0, .inr (1, [.ref q0, .ref q1, .null, .int 0])), (q0, .inl (cy 0, 80, .inl (fun _ => 0))), (q1, .inl (cy 0, 8, .inl (fun _ => 0)))] := hD
  refine lv_aload_n (k := 0) hx hb (by decide +kernel) rfl (lv_at hl 0 rfl) ?_
  refine lv_bipush (n := 8) (v := 8) hx hb (by decide +kernel) (by decide) ?_
  refine va_newa (atype := .int) (ty := .int) (N' := 8) (a0 := (8, .inl (fun _ => 0))) hx hb (hin _ uw_90) rfl hK hP hD hS hA (fun _ => rfl) (by decide) (by decide) (by decide) (Nat.le_of_ble_eq_true rfl) (Nat.le_of_ble_eq_true rfl) (by decide +kernel) (fun q2 cA H hK1 hP hD hS => ?_)
  have ec : cA = cy 0 := ab_cls (i := 3) (j := 0) (by intro C h; cases h) hK1 rfl rfl
  subst ec
  have hP : va_P D vwCl [(h0, .inr (1, [.ref q0, .ref q1, .null, .int 0])), (q0, .inl (cy 0, 80, .inl (fun _ => 0))), (q1, .inl (cy 0, 8, .inl (fun _ => 0))), (q2, .inl (cy 0, 8, .inl (fun _ => 0)))] H := hP
  have hD : va_D A [(h0, .inr (1, [.ref q0, .ref q1, .null, .int 0])), (q0, .inl (cy 0, 80, .inl (fun _ => 0))), (q1, .inl (cy 0, 8, .inl (fun _ => 0))), (q2, .inl (cy 0, 8, .inl (fun _ => 0)))] := hD
  refine va_putF (D := D) (v := .ref q2) (ty := .array .int) (C := RX1) (T := TX1) (N := 4) (ref := "GrainDole$LawBook") hx hb hts hinX tyX1 tyX1_ok nmX1 hown hK hP hD hS 0 rfl rfl 2 (by decide) (hin _ uw_125) (fun _ h9 => h9) rfl hini rfl (by decide +kernel) rfl rfl (Nat.le_of_ble_eq_true rfl) (by decide +kernel) (fun H locs hP hD hS => ?_)
  have hP : va_P D vwCl [(h0, .inr (1, [.ref q0, .ref q1, .ref q2, .int 0])), (q0, .inl (cy 0, 80, .inl (fun _ => 0))), (q1, .inl (cy 0, 8, .inl (fun _ => 0))), (q2, .inl (cy 0, 8, .inl (fun _ => 0)))] H := hP
  have hD : va_D A [(h0, .inr (1, [.ref q0, .ref q1, .ref q2, .int 0])), (q0, .inl (cy 0, 80, .inl (fun _ => 0))), (q1, .inl (cy 0, 8, .inl (fun _ => 0))), (q2, .inl (cy 0, 8, .inl (fun _ => 0)))] := hD
  refine lv_aload_n (k := 0) hx hb (by decide +kernel) rfl (lv_at hl 0 rfl) ?_
  refine lv_iconst (n := 0) (v := 0) hx hb (by decide +kernel) (by decide) ?_
  refine va_put (D := D) (v := .int 0) (ty := .int) (C := RX1) (T := TX1) (N := 4) (ref := "GrainDole$LawBook") hx hb hts hinX tyX1 tyX1_ok nmX1 hown hK hP hD hS 0 rfl rfl 3 (by decide) (hin _ uw_126) (fun _ h9 => h9) rfl (by decide +kernel) rfl rfl (Nat.le_of_ble_eq_true rfl) (by decide +kernel) (fun H locs hP hD hS => ?_)
  have hP : va_P D vwCl [(h0, .inr (1, [.ref q0, .ref q1, .ref q2, .int 0])), (q0, .inl (cy 0, 80, .inl (fun _ => 0))), (q1, .inl (cy 0, 8, .inl (fun _ => 0))), (q2, .inl (cy 0, 8, .inl (fun _ => 0)))] H := hP
  have hD : va_D A [(h0, .inr (1, [.ref q0, .ref q1, .ref q2, .int 0])), (q0, .inl (cy 0, 80, .inl (fun _ => 0))), (q1, .inl (cy 0, 8, .inl (fun _ => 0))), (q2, .inl (cy 0, 8, .inl (fun _ => 0)))] := hD
  refine W.widen (k := 3) (n := 96) (Nat.le_of_ble_eq_true rfl) (Nat.le_of_ble_eq_true rfl) ?_
  exact W.vret hx hb hr (fun t ht hW => ⟨⟨(), rfl, trivial, q0, q1, q2, by rw [ht]; exact hP, va_K.moved hW.alike hK, hD⟩, hS.F ht⟩) hS.2.2 (by decide +kernel)
set_option maxRecDepth 20000 in
set_option maxHeartbeats 4000000 in
theorem ct_X5 (l : Launch) (D : va_G) (cy : Nat → ClassId) (h0 sz : Nat) : Met l yX5_init (.code yX5_init cX5_init 1 none :: uw) { frames := 1, cells := 7, slots := 1050, locals := 12 } (va_Pc [.ref h0] (fun U => U.heap.size = sz ∧ va_P D vwCl [(h0, .inr (5, [.null, .null, .null, .null, .null, .null, .null, .int 0]))] U.heap ∧ va_K D vwCl (ab_tys cy) U ∧ va_D (fun _ => True) [(h0, .inr (5, [.null, .null, .null, .null, .null, .null, .null, .int 0]))])) (va_Qv (fun _ : Unit => True) (fun _ t => ∃ (q0 q1 q2 q3 q4 q5 q6 : Nat), va_P D vwCl [(h0, .inr (5, [.ref q0, .ref q1, .ref q2, .ref q3, .ref q4, .ref q5, .ref q6, .int 0])), (q0, .inl (cy 0, 150, .inl (fun _ => 0))), (q1, .inl (cy 0, 150, .inl (fun _ => 0))), (q2, .inl (cy 0, 150, .inl (fun _ => 0))), (q3, .inl (cy 0, 150, .inl (fun _ => 0))), (q4, .inl (cy 0, 150, .inl (fun _ => 0))), (q5, .inl (cy 0, 150, .inl (fun _ => 0))), (q6, .inl (cy 0, 150, .inl (fun _ => 0)))] t.heap ∧ va_K D vwCl (ab_tys cy) t ∧ va_D (va_A [(h0, .inr (5, [.null, .null, .null, .null, .null, .null, .null, .int 0]))] sz) [(h0, .inr (5, [.ref q0, .ref q1, .ref q2, .ref q3, .ref q4, .ref q5, .ref q6, .int 0])), (q0, .inl (cy 0, 150, .inl (fun _ => 0))), (q1, .inl (cy 0, 150, .inl (fun _ => 0))), (q2, .inl (cy 0, 150, .inl (fun _ => 0))), (q3, .inl (cy 0, 150, .inl (fun _ => 0))), (q4, .inl (cy 0, 150, .inl (fun _ => 0))), (q5, .inl (cy 0, 150, .inl (fun _ => 0))), (q6, .inl (cy 0, 150, .inl (fun _ => 0)))]) (va_A [(h0, .inr (5, [.null, .null, .null, .null, .null, .null, .null, .int 0]))] sz)) 7 1050 (va_A [(h0, .inr (5, [.null, .null, .null, .null, .null, .null, .null, .int 0]))] sz) := by
  refine Met.ofW (cc := cX5_init) (maxL := 1) (ret := none) (by decide +kernel) rfl ?_
  intro p e s m args below meth c s₁ B hml hv
  obtain ⟨rfl, hsz, hP, hK, hD0⟩ := hv
  subst hsz
  have hD := hD0.self (sz := s.heap.size)
  generalize hAe : va_A [(h0, .inr (5, [.null, .null, .null, .null, .null, .null, .null, .int 0]))] s.heap.size = A at hD ⊢
  have hA : ∀ q : Nat, s.heap.size ≤ q → A q := fun q h => by rw [← hAe]; exact Or.inr h
  have hx := B.exec
  have hb : c.code = cX5_init := B.bytes
  have hr := B.returns
  have hlocks := B.notSynchronized
  have hini : meth.name = "<init>" := (name_of_methodNamed B.named B.method).1
  have hts := atoms_spec (ws := (Cond.code yX5_init cX5_init 1 none :: uw)) B.pre
  have hin : ∀ w ∈ uw, w.before ([Value.ref h0] : List Value).toArray s = true := fun w hw => hts w (List.mem_cons_of_mem _ hw)
  have hinX : ∀ w ∈ u_ws RX5 TX5 8, w ∈ (Cond.code yX5_init cX5_init 1 none :: uw) := fun w hw => List.mem_cons_of_mem _ (in_X5 w hw)
  have hown : s.vm.findClass RX5 = some m.cls := findClass_of_methodNamed B.named
  have hS : va_S A s.heap s.heap [] := va_S.rf
  have hl := lv_entry ([.ref h0]) (n := 1) (Nat.le_of_ble_eq_true rfl)
  rw [lg_entry_eq]
  generalize (lg_sl ([.ref h0]) ++ List.replicate (1 - (lg_sl ([.ref h0])).length) Slot.unset).toArray = ls at hl ⊢
  have hl : lv_has ls 1 [(0, .ref h0)] := hl
  obtain ⟨H, hH⟩ : ∃ H, H = s.heap := ⟨_, rfl⟩
  rw [← hH] at hP
  have hS : va_S A s.heap H [] := by rw [hH]; exact hS
  show W p l e _ s m _ below meth c s.heap [] 0 0 _ _
  rw [← hH]
  refine lv_aload_n (k := 0) hx hb (by decide +kernel) rfl (lv_at hl 0 rfl) ?_
  refine W.objInit hx hb hown (hin _ uw_141) (hin _ uw_75) (hin _ uw_76) rfl (by rw [hml]; exact hl.1) rfl (show decode cX5_init 1 = _ from by decide +kernel) (Nat.le_of_ble_eq_true rfl) (Nat.le_of_ble_eq_true rfl) ?_
  refine W.eq (g2 := F0 m 4 ls []) rfl ?_
  refine lv_aload_n (k := 0) hx hb (by decide +kernel) rfl (lv_at hl 0 rfl) ?_
  refine lv_sipush (n := 150) (v := 150) hx hb (by decide +kernel) (by decide) ?_
  refine va_newa (atype := .int) (ty := .int) (N' := 150) (a0 := (150, .inl (fun _ => 0))) hx hb (hin _ uw_90) rfl hK hP hD hS hA (fun _ => rfl) (by decide) (by decide) (by decide) (Nat.le_of_ble_eq_true rfl) (Nat.le_of_ble_eq_true rfl) (by decide +kernel) (fun q0 cA H hK1 hP hD hS => ?_)
  have ec : cA = cy 0 := ab_cls (i := 3) (j := 0) (by intro C h; cases h) hK1 rfl rfl
  subst ec
  have hP : va_P D vwCl [(h0, .inr (5, [.null, .null, .null, .null, .null, .null, .null, .int 0])), (q0, .inl (cy 0, 150, .inl (fun _ => 0)))] H := hP
  have hD : va_D A [(h0, .inr (5, [.null, .null, .null, .null, .null, .null, .null, .int 0])), (q0, .inl (cy 0, 150, .inl (fun _ => 0)))] := hD
  refine va_putF (D := D) (v := .ref q0) (ty := .array .int) (C := RX5) (T := TX5) (N := 8) (ref := "GrainDole$Roll") hx hb hts hinX tyX5 tyX5_ok nmX5 hown hK hP hD hS 0 rfl rfl 0 (by decide) (hin _ uw_142) (fun _ h9 => h9) rfl hini rfl (by decide +kernel) rfl rfl (Nat.le_of_ble_eq_true rfl) (by decide +kernel) (fun H locs hP hD hS => ?_)
  have hP : va_P D vwCl [(h0, .inr (5, [.ref q0, .null, .null, .null, .null, .null, .null, .int 0])), (q0, .inl (cy 0, 150, .inl (fun _ => 0)))] H := hP
  have hD : va_D A [(h0, .inr (5, [.ref q0, .null, .null, .null, .null, .null, .null, .int 0])), (q0, .inl (cy 0, 150, .inl (fun _ => 0)))] := hD
  refine lv_aload_n (k := 0) hx hb (by decide +kernel) rfl (lv_at hl 0 rfl) ?_
  refine lv_sipush (n := 150) (v := 150) hx hb (by decide +kernel) (by decide) ?_
  refine va_newa (atype := .int) (ty := .int) (N' := 150) (a0 := (150, .inl (fun _ => 0))) hx hb (hin _ uw_90) rfl hK hP hD hS hA (fun _ => rfl) (by decide) (by decide) (by decide) (Nat.le_of_ble_eq_true rfl) (Nat.le_of_ble_eq_true rfl) (by decide +kernel) (fun q1 cA H hK1 hP hD hS => ?_)
  have ec : cA = cy 0 := ab_cls (i := 3) (j := 0) (by intro C h; cases h) hK1 rfl rfl
  subst ec
  have hP : va_P D vwCl [(h0, .inr (5, [.ref q0, .null, .null, .null, .null, .null, .null, .int 0])), (q0, .inl (cy 0, 150, .inl (fun _ => 0))), (q1, .inl (cy 0, 150, .inl (fun _ => 0)))] H := hP
  have hD : va_D A [(h0, .inr (5, [.ref q0, .null, .null, .null, .null, .null, .null, .int 0])), (q0, .inl (cy 0, 150, .inl (fun _ => 0))), (q1, .inl (cy 0, 150, .inl (fun _ => 0)))] := hD
  refine va_putF (D := D) (v := .ref q1) (ty := .array .int) (C := RX5) (T := TX5) (N := 8) (ref := "GrainDole$Roll") hx hb hts hinX tyX5 tyX5_ok nmX5 hown hK hP hD hS 0 rfl rfl 1 (by decide) (hin _ uw_143) (fun _ h9 => h9) rfl hini rfl (by decide +kernel) rfl rfl (Nat.le_of_ble_eq_true rfl) (by decide +kernel) (fun H locs hP hD hS => ?_)
  have hP : va_P D vwCl [(h0, .inr (5, [.ref q0, .ref q1, .null, .null, .null, .null, .null, .int 0])), (q0, .inl (cy 0, 150, .inl (fun _ => 0))), (q1, .inl (cy 0, 150, .inl (fun _ => 0)))] H := hP
  have hD : va_D A [(h0, .inr (5, [.ref q0, .ref q1, .null, .null, .null, .null, .null, .int 0])), (q0, .inl (cy 0, 150, .inl (fun _ => 0))), (q1, .inl (cy 0, 150, .inl (fun _ => 0)))] := hD
  refine lv_aload_n (k := 0) hx hb (by decide +kernel) rfl (lv_at hl 0 rfl) ?_
  refine lv_sipush (n := 150) (v := 150) hx hb (by decide +kernel) (by decide) ?_
  refine va_newa (atype := .int) (ty := .int) (N' := 150) (a0 := (150, .inl (fun _ => 0))) hx hb (hin _ uw_90) rfl hK hP hD hS hA (fun _ => rfl) (by decide) (by decide) (by decide) (Nat.le_of_ble_eq_true rfl) (Nat.le_of_ble_eq_true rfl) (by decide +kernel) (fun q2 cA H hK1 hP hD hS => ?_)
  have ec : cA = cy 0 := ab_cls (i := 3) (j := 0) (by intro C h; cases h) hK1 rfl rfl
  subst ec
  have hP : va_P D vwCl [(h0, .inr (5, [.ref q0, .ref q1, .null, .null, .null, .null, .null, .int 0])), (q0, .inl (cy 0, 150, .inl (fun _ => 0))), (q1, .inl (cy 0, 150, .inl (fun _ => 0))), (q2, .inl (cy 0, 150, .inl (fun _ => 0)))] H := hP
  have hD : va_D A [(h0, .inr (5, [.ref q0, .ref q1, .null, .null, .null, .null, .null, .int 0])), (q0, .inl (cy 0, 150, .inl (fun _ => 0))), (q1, .inl (cy 0, 150, .inl (fun _ => 0))), (q2, .inl (cy 0, 150, .inl (fun _ => 0)))] := hD
  refine va_putF (D := D) (v := .ref q2) (ty := .array .int) (C := RX5) (T := TX5) (N := 8) (ref := "GrainDole$Roll") hx hb hts hinX tyX5 tyX5_ok nmX5 hown hK hP hD hS 0 rfl rfl 2 (by decide) (hin _ uw_144) (fun _ h9 => h9) rfl hini rfl (by decide +kernel) rfl rfl (Nat.le_of_ble_eq_true rfl) (by decide +kernel) (fun H locs hP hD hS => ?_)
  have hP : va_P D vwCl [(h0, .inr (5, [.ref q0, .ref q1, .ref q2, .null, .null, .null, .null, .int 0])), (q0, .inl (cy 0, 150, .inl (fun _ => 0))), (q1, .inl (cy 0, 150, .inl (fun _ => 0))), (q2, .inl (cy 0, 150, .inl (fun _ => 0)))] H := hP
  have hD : va_D A [(h0, .inr (5, [.ref q0, .ref q1, .ref q2, .null, .null, .null, .null, .int 0])), (q0, .inl (cy 0, 150, .inl (fun _ => 0))), (q1, .inl (cy 0, 150, .inl (fun _ => 0))), (q2, .inl (cy 0, 150, .inl (fun _ => 0)))] := hD
  refine lv_aload_n (k := 0) hx hb (by decide +kernel) rfl (lv_at hl 0 rfl) ?_
  refine lv_sipush (n := 150) (v := 150) hx hb (by decide +kernel) (by decide) ?_
  refine va_newa (atype := .int) (ty := .int) (N' := 150) (a0 := (150, .inl (fun _ => 0))) hx hb (hin _ uw_90) rfl hK hP hD hS hA (fun _ => rfl) (by decide) (by decide) (by decide) (Nat.le_of_ble_eq_true rfl) (Nat.le_of_ble_eq_true rfl) (by decide +kernel) (fun q3 cA H hK1 hP hD hS => ?_)
  have ec : cA = cy 0 := ab_cls (i := 3) (j := 0) (by intro C h; cases h) hK1 rfl rfl
  subst ec
  have hP : va_P D vwCl [(h0, .inr (5, [.ref q0, .ref q1, .ref q2, .null, .null, .null, .null, .int 0])), (q0, .inl (cy 0, 150, .inl (fun _ => 0))), (q1, .inl (cy 0, 150, .inl (fun _ => 0))), (q2, .inl (cy 0, 150, .inl (fun _ => 0))), (q3, .inl (cy 0, 150, .inl (fun _ => 0)))] H := hP
  have hD : va_D A [(h0, .inr (5, [.ref q0, .ref q1, .ref q2, .null, .null, .null, .null, .int 0])), (q0, .inl (cy 0, 150, .inl (fun _ => 0))), (q1, .inl (cy 0, 150, .inl (fun _ => 0))), (q2, .inl (cy 0, 150, .inl (fun _ => 0))), (q3, .inl (cy 0, 150, .inl (fun _ => 0)))] := hD
  refine va_putF (D := D) (v := .ref q3) (ty := .array .int) (C := RX5) (T := TX5) (N := 8) (ref := "GrainDole$Roll") hx hb hts hinX tyX5 tyX5_ok nmX5 hown hK hP hD hS 0 rfl rfl 3 (by decide) (hin _ uw_145) (fun _ h9 => h9) rfl hini rfl (by decide +kernel) rfl rfl (Nat.le_of_ble_eq_true rfl) (by decide +kernel) (fun H locs hP hD hS => ?_)
  have hP : va_P D vwCl [(h0, .inr (5, [.ref q0, .ref q1, .ref q2, .ref q3, .null, .null, .null, .int 0])), (q0, .inl (cy 0, 150, .inl (fun _ => 0))), (q1, .inl (cy 0, 150, .inl (fun _ => 0))), (q2, .inl (cy 0, 150, .inl (fun _ => 0))), (q3, .inl (cy 0, 150, .inl (fun _ => 0)))] H := hP
  have hD : va_D A [(h0, .inr (5, [.ref q0, .ref q1, .ref q2, .ref q3, .null, .null, .null, .int 0])), (q0, .inl (cy 0, 150, .inl (fun _ => 0))), (q1, .inl (cy 0, 150, .inl (fun _ => 0))), (q2, .inl (cy 0, 150, .inl (fun _ => 0))), (q3, .inl (cy 0, 150, .inl (fun _ => 0)))] := hD
  refine lv_aload_n (k := 0) hx hb (by decide +kernel) rfl (lv_at hl 0 rfl) ?_
  refine lv_sipush (n := 150) (v := 150) hx hb (by decide +kernel) (by decide) ?_
  refine va_newa (atype := .int) (ty := .int) (N' := 150) (a0 := (150, .inl (fun _ => 0))) hx hb (hin _ uw_90) rfl hK hP hD hS hA (fun _ => rfl) (by decide) (by decide) (by decide) (Nat.le_of_ble_eq_true rfl) (Nat.le_of_ble_eq_true rfl) (by decide +kernel) (fun q4 cA H hK1 hP hD hS => ?_)
  have ec : cA = cy 0 := ab_cls (i := 3) (j := 0) (by intro C h; cases h) hK1 rfl rfl
  subst ec
  have hP : va_P D vwCl [(h0, .inr (5, [.ref q0, .ref q1, .ref q2, .ref q3, .null, .null, .null, .int 0])), (q0, .inl (cy 0, 150, .inl (fun _ => 0))), (q1, .inl (cy 0, 150, .inl (fun _ => 0))), (q2, .inl (cy 0, 150, .inl (fun _ => 0))), (q3, .inl (cy 0, 150, .inl (fun _ => 0))), (q4, .inl (cy 0, 150, .inl (fun _ => 0)))] H := hP
  have hD : va_D A [(h0, .inr (5, [.ref q0, .ref q1, .ref q2, .ref q3, .null, .null, .null, .int 0])), (q0, .inl (cy 0, 150, .inl (fun _ => 0))), (q1, .inl (cy 0, 150, .inl (fun _ => 0))), (q2, .inl (cy 0, 150, .inl (fun _ => 0))), (q3, .inl (cy 0, 150, .inl (fun _ => 0))), (q4, .inl (cy 0, 150, .inl (fun _ => 0)))] := hD
  refine va_putF (D := D) (v := .ref q4) (ty := .array .int) (C := RX5) (T := TX5) (N := 8) (ref := "GrainDole$Roll") hx hb hts hinX tyX5 tyX5_ok nmX5 hown hK hP hD hS 0 rfl rfl 4 (by decide) (hin _ uw_146) (fun _ h9 => h9) rfl hini rfl (by decide +kernel) rfl rfl (Nat.le_of_ble_eq_true rfl) (by decide +kernel) (fun H locs hP hD hS => ?_)
  have hP : va_P D vwCl [(h0, .inr (5, [.ref q0, .ref q1, .ref q2, .ref q3, .ref q4, .null, .null, .int 0])), (q0, .inl (cy 0, 150, .inl (fun _ => 0))), (q1, .inl (cy 0, 150, .inl (fun _ => 0))), (q2, .inl (cy 0, 150, .inl (fun _ => 0))), (q3, .inl (cy 0, 150, .inl (fun _ => 0))), (q4, .inl (cy 0, 150, .inl (fun _ => 0)))] H := hP
  have hD : va_D A [(h0, .inr (5, [.ref q0, .ref q1, .ref q2, .ref q3, .ref q4, .null, .null, .int 0])), (q0, .inl (cy 0, 150, .inl (fun _ => 0))), (q1, .inl (cy 0, 150, .inl (fun _ => 0))), (q2, .inl (cy 0, 150, .inl (fun _ => 0))), (q3, .inl (cy 0, 150, .inl (fun _ => 0))), (q4, .inl (cy 0, 150, .inl (fun _ => 0)))] := hD
  refine lv_aload_n (k := 0) hx hb (by decide +kernel) rfl (lv_at hl 0 rfl) ?_
  refine lv_sipush (n := 150) (v := 150) hx hb (by decide +kernel) (by decide) ?_
  refine va_newa (atype := .int) (ty := .int) (N' := 150) (a0 := (150, .inl (fun _ => 0))) hx hb (hin _ uw_90) rfl hK hP hD hS hA (fun _ => rfl) (by decide) (by decide) (by decide) (Nat.le_of_ble_eq_true rfl) (Nat.le_of_ble_eq_true rfl) (by decide +kernel) (fun q5 cA H hK1 hP hD hS => ?_)
  have ec : cA = cy 0 := ab_cls (i := 3) (j := 0) (by intro C h; cases h) hK1 rfl rfl
  subst ec
  have hP : va_P D vwCl [(h0, .inr (5, [.ref q0, .ref q1, .ref q2, .ref q3, .ref q4, .null, .null, .int 0])), (q0, .inl (cy 0, 150, .inl (fun _ => 0))), (q1, .inl (cy 0, 150, .inl (fun _ => 0))), (q2, .inl (cy 0, 150, .inl (fun _ => 0))), (q3, .inl (cy 0, 150, .inl (fun _ => 0))), (q4, .inl (cy 0, 150, .inl (fun _ => 0))), (q5, .inl (cy 0, 150, .inl (fun _ => 0)))] H := hP
  have hD : va_D A [(h0, .inr (5, [.ref q0, .ref q1, .ref q2, .ref q3, .ref q4, .null, .null, .int 0])), (q0, .inl (cy 0, 150, .inl (fun _ => 0))), (q1, .inl (cy 0, 150, .inl (fun _ => 0))), (q2, .inl (cy 0, 150, .inl (fun _ => 0))), (q3, .inl (cy 0, 150, .inl (fun _ => 0))), (q4, .inl (cy 0, 150, .inl (fun _ => 0))), (q5, .inl (cy 0, 150, .inl (fun _ => 0)))] := hD
  refine va_putF (D := D) (v := .ref q5) (ty := .array .int) (C := RX5) (T := TX5) (N := 8) (ref := "GrainDole$Roll") hx hb hts hinX tyX5 tyX5_ok nmX5 hown hK hP hD hS 0 rfl rfl 5 (by decide) (hin _ uw_147) (fun _ h9 => h9) rfl hini rfl (by decide +kernel) rfl rfl (Nat.le_of_ble_eq_true rfl) (by decide +kernel) (fun H locs hP hD hS => ?_)
  have hP : va_P D vwCl [(h0, .inr (5, [.ref q0, .ref q1, .ref q2, .ref q3, .ref q4, .ref q5, .null, .int 0])), (q0, .inl (cy 0, 150, .inl (fun _ => 0))), (q1, .inl (cy 0, 150, .inl (fun _ => 0))), (q2, .inl (cy 0, 150, .inl (fun _ => 0))), (q3, .inl (cy 0, 150, .inl (fun _ => 0))), (q4, .inl (cy 0, 150, .inl (fun _ => 0))), (q5, .inl (cy 0, 150, .inl (fun _ => 0)))] H := hP
  have hD : va_D A [(h0, .inr (5, [.ref q0, .ref q1, .ref q2, .ref q3, .ref q4, .ref q5, .null, .int 0])), (q0, .inl (cy 0, 150, .inl (fun _ => 0))), (q1, .inl (cy 0, 150, .inl (fun _ => 0))), (q2, .inl (cy 0, 150, .inl (fun _ => 0))), (q3, .inl (cy 0, 150, .inl (fun _ => 0))), (q4, .inl (cy 0, 150, .inl (fun _ => 0))), (q5, .inl (cy 0, 150, .inl (fun _ => 0)))] := hD
  refine lv_aload_n (k := 0) hx hb (by decide +kernel) rfl (lv_at hl 0 rfl) ?_
  refine lv_sipush (n := 150) (v := 150) hx hb (by decide +kernel) (by decide) ?_
  refine va_newa (atype := .int) (ty := .int) (N' := 150) (a0 := (150, .inl (fun _ => 0))) hx hb (hin _ uw_90) rfl hK hP hD hS hA (fun _ => rfl) (by decide) (by decide) (by decide) (Nat.le_of_ble_eq_true rfl) (Nat.le_of_ble_eq_true rfl) (by decide +kernel) (fun q6 cA H hK1 hP hD hS => ?_)
  have ec : cA = cy 0 := ab_cls (i := 3) (j := 0) (by intro C h; cases h) hK1 rfl rfl
  subst ec
  have hP : va_P D vwCl [(h0, .inr (5, [.ref q0, .ref q1, .ref q2, .ref q3, .ref q4, .ref q5, .null, .int 0])), (q0, .inl (cy 0, 150, .inl (fun _ => 0))), (q1, .inl (cy 0, 150, .inl (fun _ => 0))), (q2, .inl (cy 0, 150, .inl (fun _ => 0))), (q3, .inl (cy 0, 150, .inl (fun _ => 0))), (q4, .inl (cy 0, 150, .inl (fun _ => 0))), (q5, .inl (cy 0, 150, .inl (fun _ => 0))), (q6, .inl (cy 0, 150, .inl (fun _ => 0)))] H := hP
  have hD : va_D A [(h0, .inr (5, [.ref q0, .ref q1, .ref q2, .ref q3, .ref q4, .ref q5, .null, .int 0])), (q0, .inl (cy 0, 150, .inl (fun _ => 0))), (q1, .inl (cy 0, 150, .inl (fun _ => 0))), (q2, .inl (cy 0, 150, .inl (fun _ => 0))), (q3, .inl (cy 0, 150, .inl (fun _ => 0))), (q4, .inl (cy 0, 150, .inl (fun _ => 0))), (q5, .inl (cy 0, 150, .inl (fun _ => 0))), (q6, .inl (cy 0, 150, .inl (fun _ => 0)))] := hD
  refine va_putF (D := D) (v := .ref q6) (ty := .array .int) (C := RX5) (T := TX5) (N := 8) (ref := "GrainDole$Roll") hx hb hts hinX tyX5 tyX5_ok nmX5 hown hK hP hD hS 0 rfl rfl 6 (by decide) (hin _ uw_148) (fun _ h9 => h9) rfl hini rfl (by decide +kernel) rfl rfl (Nat.le_of_ble_eq_true rfl) (by decide +kernel) (fun H locs hP hD hS => ?_)
  have hP : va_P D vwCl [(h0, .inr (5, [.ref q0, .ref q1, .ref q2, .ref q3, .ref q4, .ref q5, .ref q6, .int 0])), (q0, .inl (cy 0, 150, .inl (fun _ => 0))), (q1, .inl (cy 0, 150, .inl (fun _ => 0))), (q2, .inl (cy 0, 150, .inl (fun _ => 0))), (q3, .inl (cy 0, 150, .inl (fun _ => 0))), (q4, .inl (cy 0, 150, .inl (fun _ => 0))), (q5, .inl (cy 0, 150, .inl (fun _ => 0))), (q6, .inl (cy 0, 150, .inl (fun _ => 0)))] H := hP
  have hD : va_D A [(h0, .inr (5, [.ref q0, .ref q1, .ref q2, .ref q3, .ref q4, .ref q5, .ref q6, .int 0])), (q0, .inl (cy 0, 150, .inl (fun _ => 0))), (q1, .inl (cy 0, 150, .inl (fun _ => 0))), (q2, .inl (cy 0, 150, .inl (fun _ => 0))), (q3, .inl (cy 0, 150, .inl (fun _ => 0))), (q4, .inl (cy 0, 150, .inl (fun _ => 0))), (q5, .inl (cy 0, 150, .inl (fun _ => 0))), (q6, .inl (cy 0, 150, .inl (fun _ => 0)))] := hD
  refine lv_aload_n (k := 0) hx hb (by decide +kernel) rfl (lv_at hl 0 rfl) ?_
  refine lv_iconst (n := 0) (v := 0) hx hb (by decide +kernel) (by decide) ?_
  refine va_put (D := D) (v := .int 0) (ty := .int) (C := RX5) (T := TX5) (N := 8) (ref := "GrainDole$Roll") hx hb hts hinX tyX5 tyX5_ok nmX5 hown hK hP hD hS 0 rfl rfl 7 (by decide) (hin _ uw_149) (fun _ h9 => h9) rfl (by decide +kernel) rfl rfl (Nat.le_of_ble_eq_true rfl) (by decide +kernel) (fun H locs hP hD hS => ?_)
  have hP : va_P D vwCl [(h0, .inr (5, [.ref q0, .ref q1, .ref q2, .ref q3, .ref q4, .ref q5, .ref q6, .int 0])), (q0, .inl (cy 0, 150, .inl (fun _ => 0))), (q1, .inl (cy 0, 150, .inl (fun _ => 0))), (q2, .inl (cy 0, 150, .inl (fun _ => 0))), (q3, .inl (cy 0, 150, .inl (fun _ => 0))), (q4, .inl (cy 0, 150, .inl (fun _ => 0))), (q5, .inl (cy 0, 150, .inl (fun _ => 0))), (q6, .inl (cy 0, 150, .inl (fun _ => 0)))] H := hP
  have hD : va_D A [(h0, .inr (5, [.ref q0, .ref q1, .ref q2, .ref q3, .ref q4, .ref q5, .ref q6, .int 0])), (q0, .inl (cy 0, 150, .inl (fun _ => 0))), (q1, .inl (cy 0, 150, .inl (fun _ => 0))), (q2, .inl (cy 0, 150, .inl (fun _ => 0))), (q3, .inl (cy 0, 150, .inl (fun _ => 0))), (q4, .inl (cy 0, 150, .inl (fun _ => 0))), (q5, .inl (cy 0, 150, .inl (fun _ => 0))), (q6, .inl (cy 0, 150, .inl (fun _ => 0)))] := hD
  refine W.widen (k := 7) (n := 1050) (Nat.le_of_ble_eq_true rfl) (Nat.le_of_ble_eq_true rfl) ?_
  exact W.vret hx hb hr (fun t ht hW => ⟨⟨(), rfl, trivial, q0, q1, q2, q3, q4, q5, q6, by rw [ht]; exact hP, va_K.moved hW.alike hK, hD⟩, hS.F ht⟩) hS.2.2 (by decide +kernel)
set_option maxRecDepth 20000 in
set_option maxHeartbeats 4000000 in
theorem ct_X6 (l : Launch) (D : va_G) (cy : Nat → ClassId) (h0 sz r0 r1 : Nat) : Met l yX6_init (.code yX6_init cX6_init 3 none :: uw) { frames := 1, cells := 5, slots := 410, locals := 12 } (va_Pc [.ref h0, .ref r0, .ref r1] (fun U => U.heap.size = sz ∧ va_P D vwCl [(h0, .inr (6, [.null, .null, .null, .null, .null, .null, .null, .int 0, .int 0]))] U.heap ∧ va_K D vwCl (ab_tys cy) U ∧ va_D (fun _ => True) [(h0, .inr (6, [.null, .null, .null, .null, .null, .null, .null, .int 0, .int 0]))])) (va_Qv (fun _ : Unit => True) (fun _ t => ∃ (q0 q1 q2 q3 q4 : Nat), va_P D vwCl [(h0, .inr (6, [.ref r0, .ref r1, .ref q0, .ref q1, .ref q2, .ref q3, .ref q4, .int 0, .int 0])), (q0, .inl (cy 0, 30, .inl (fun _ => 0))), (q1, .inl (cy 0, 30, .inl (fun _ => 0))), (q2, .inl (cy 0, 100, .inl (fun _ => 0))), (q3, .inl (cy 1, 100, .inl (fun _ => 0))), (q4, .inl (cy 1, 150, .inl (fun _ => 0)))] t.heap ∧ va_K D vwCl (ab_tys cy) t ∧ va_D (va_A [(h0, .inr (6, [.null, .null, .null, .null, .null, .null, .null, .int 0, .int 0]))] sz) [(h0, .inr (6, [.ref r0, .ref r1, .ref q0, .ref q1, .ref q2, .ref q3, .ref q4, .int 0, .int 0])), (q0, .inl (cy 0, 30, .inl (fun _ => 0))), (q1, .inl (cy 0, 30, .inl (fun _ => 0))), (q2, .inl (cy 0, 100, .inl (fun _ => 0))), (q3, .inl (cy 1, 100, .inl (fun _ => 0))), (q4, .inl (cy 1, 150, .inl (fun _ => 0)))]) (va_A [(h0, .inr (6, [.null, .null, .null, .null, .null, .null, .null, .int 0, .int 0]))] sz)) 5 410 (va_A [(h0, .inr (6, [.null, .null, .null, .null, .null, .null, .null, .int 0, .int 0]))] sz) := by
  refine Met.ofW (cc := cX6_init) (maxL := 3) (ret := none) (by decide +kernel) rfl ?_
  intro p e s m args below meth c s₁ B hml hv
  obtain ⟨rfl, hsz, hP, hK, hD0⟩ := hv
  subst hsz
  have hD := hD0.self (sz := s.heap.size)
  generalize hAe : va_A [(h0, .inr (6, [.null, .null, .null, .null, .null, .null, .null, .int 0, .int 0]))] s.heap.size = A at hD ⊢
  have hA : ∀ q : Nat, s.heap.size ≤ q → A q := fun q h => by rw [← hAe]; exact Or.inr h
  have hx := B.exec
  have hb : c.code = cX6_init := B.bytes
  have hr := B.returns
  have hlocks := B.notSynchronized
  have hini : meth.name = "<init>" := (name_of_methodNamed B.named B.method).1
  have hts := atoms_spec (ws := (Cond.code yX6_init cX6_init 3 none :: uw)) B.pre
  have hin : ∀ w ∈ uw, w.before ([Value.ref h0, Value.ref r0, Value.ref r1] : List Value).toArray s = true := fun w hw => hts w (List.mem_cons_of_mem _ hw)
  have hinX : ∀ w ∈ u_ws RX6 TX6 9, w ∈ (Cond.code yX6_init cX6_init 3 none :: uw) := fun w hw => List.mem_cons_of_mem _ (in_X6 w hw)
  have hown : s.vm.findClass RX6 = some m.cls := findClass_of_methodNamed B.named
  have hS : va_S A s.heap s.heap [] := va_S.rf
  have hl := lv_entry ([.ref h0, .ref r0, .ref r1]) (n := 3) (Nat.le_of_ble_eq_true rfl)
  rw [lg_entry_eq]
  generalize (lg_sl ([.ref h0, .ref r0, .ref r1]) ++ List.replicate (3 - (lg_sl ([.ref h0, .ref r0, .ref r1])).length) Slot.unset).toArray = ls at hl ⊢
  have hl : lv_has ls 3 [(0, .ref h0), (1, .ref r0), (2, .ref r1)] := hl
  obtain ⟨H, hH⟩ : ∃ H, H = s.heap := ⟨_, rfl⟩
  rw [← hH] at hP
  have hS : va_S A s.heap H [] := by rw [hH]; exact hS
  show W p l e _ s m _ below meth c s.heap [] 0 0 _ _
  rw [← hH]
  refine lv_aload_n (k := 0) hx hb (by decide +kernel) rfl (lv_at hl 0 rfl) ?_
  refine W.objInit hx hb hown (hin _ uw_172) (hin _ uw_75) (hin _ uw_76) rfl (by rw [hml]; exact hl.1) rfl (show decode cX6_init 1 = _ from by decide +kernel) (Nat.le_of_ble_eq_true rfl) (Nat.le_of_ble_eq_true rfl) ?_
  refine W.eq (g2 := F0 m 4 ls []) rfl ?_
  refine lv_aload_n (k := 0) hx hb (by decide +kernel) rfl (lv_at hl 0 rfl) ?_
  refine lv_bipush (n := 30) (v := 30) hx hb (by decide +kernel) (by decide) ?_
  refine va_newa (atype := .int) (ty := .int) (N' := 30) (a0 := (30, .inl (fun _ => 0))) hx hb (hin _ uw_90) rfl hK hP hD hS hA (fun _ => rfl) (by decide) (by decide) (by decide) (Nat.le_of_ble_eq_true rfl) (Nat.le_of_ble_eq_true rfl) (by decide +kernel) (fun q0 cA H hK1 hP hD hS => ?_)
  have ec : cA = cy 0 := ab_cls (i := 3) (j := 0) (by intro C h; cases h) hK1 rfl rfl
  subst ec
  have hP : va_P D vwCl [(h0, .inr (6, [.null, .null, .null, .null, .null, .null, .null, .int 0, .int 0])), (q0, .inl (cy 0, 30, .inl (fun _ => 0)))] H := hP
  have hD : va_D A [(h0, .inr (6, [.null, .null, .null, .null, .null, .null, .null, .int 0, .int 0])), (q0, .inl (cy 0, 30, .inl (fun _ => 0)))] := hD
  refine va_putF (D := D) (v := .ref q0) (ty := .array .int) (C := RX6) (T := TX6) (N := 9) (ref := "GrainDole$Standing") hx hb hts hinX tyX6 tyX6_ok nmX6 hown hK hP hD hS 0 rfl rfl 2 (by decide) (hin _ uw_175) (fun _ h9 => h9) rfl hini rfl (by decide +kernel) rfl rfl (Nat.le_of_ble_eq_true rfl) (by decide +kernel) (fun H locs hP hD hS => ?_)
  have hP : va_P D vwCl [(h0, .inr (6, [.null, .null, .ref q0, .null, .null, .null, .null, .int 0, .int 0])), (q0, .inl (cy 0, 30, .inl (fun _ => 0)))] H := hP
  have hD : va_D A [(h0, .inr (6, [.null, .null, .ref q0, .null, .null, .null, .null, .int 0, .int 0])), (q0, .inl (cy 0, 30, .inl (fun _ => 0)))] := hD
  refine lv_aload_n (k := 0) hx hb (by decide +kernel) rfl (lv_at hl 0 rfl) ?_
  refine lv_bipush (n := 30) (v := 30) hx hb (by decide +kernel) (by decide) ?_
  refine va_newa (atype := .int) (ty := .int) (N' := 30) (a0 := (30, .inl (fun _ => 0))) hx hb (hin _ uw_90) rfl hK hP hD hS hA (fun _ => rfl) (by decide) (by decide) (by decide) (Nat.le_of_ble_eq_true rfl) (Nat.le_of_ble_eq_true rfl) (by decide +kernel) (fun q1 cA H hK1 hP hD hS => ?_)
  have ec : cA = cy 0 := ab_cls (i := 3) (j := 0) (by intro C h; cases h) hK1 rfl rfl
  subst ec
  have hP : va_P D vwCl [(h0, .inr (6, [.null, .null, .ref q0, .null, .null, .null, .null, .int 0, .int 0])), (q0, .inl (cy 0, 30, .inl (fun _ => 0))), (q1, .inl (cy 0, 30, .inl (fun _ => 0)))] H := hP
  have hD : va_D A [(h0, .inr (6, [.null, .null, .ref q0, .null, .null, .null, .null, .int 0, .int 0])), (q0, .inl (cy 0, 30, .inl (fun _ => 0))), (q1, .inl (cy 0, 30, .inl (fun _ => 0)))] := hD
  refine va_putF (D := D) (v := .ref q1) (ty := .array .int) (C := RX6) (T := TX6) (N := 9) (ref := "GrainDole$Standing") hx hb hts hinX tyX6 tyX6_ok nmX6 hown hK hP hD hS 0 rfl rfl 3 (by decide) (hin _ uw_176) (fun _ h9 => h9) rfl hini rfl (by decide +kernel) rfl rfl (Nat.le_of_ble_eq_true rfl) (by decide +kernel) (fun H locs hP hD hS => ?_)
  have hP : va_P D vwCl [(h0, .inr (6, [.null, .null, .ref q0, .ref q1, .null, .null, .null, .int 0, .int 0])), (q0, .inl (cy 0, 30, .inl (fun _ => 0))), (q1, .inl (cy 0, 30, .inl (fun _ => 0)))] H := hP
  have hD : va_D A [(h0, .inr (6, [.null, .null, .ref q0, .ref q1, .null, .null, .null, .int 0, .int 0])), (q0, .inl (cy 0, 30, .inl (fun _ => 0))), (q1, .inl (cy 0, 30, .inl (fun _ => 0)))] := hD
  refine lv_aload_n (k := 0) hx hb (by decide +kernel) rfl (lv_at hl 0 rfl) ?_
  refine lv_bipush (n := 100) (v := 100) hx hb (by decide +kernel) (by decide) ?_
  refine va_newa (atype := .int) (ty := .int) (N' := 100) (a0 := (100, .inl (fun _ => 0))) hx hb (hin _ uw_90) rfl hK hP hD hS hA (fun _ => rfl) (by decide) (by decide) (by decide) (Nat.le_of_ble_eq_true rfl) (Nat.le_of_ble_eq_true rfl) (by decide +kernel) (fun q2 cA H hK1 hP hD hS => ?_)
  have ec : cA = cy 0 := ab_cls (i := 3) (j := 0) (by intro C h; cases h) hK1 rfl rfl
  subst ec
  have hP : va_P D vwCl [(h0, .inr (6, [.null, .null, .ref q0, .ref q1, .null, .null, .null, .int 0, .int 0])), (q0, .inl (cy 0, 30, .inl (fun _ => 0))), (q1, .inl (cy 0, 30, .inl (fun _ => 0))), (q2, .inl (cy 0, 100, .inl (fun _ => 0)))] H := hP
  have hD : va_D A [(h0, .inr (6, [.null, .null, .ref q0, .ref q1, .null, .null, .null, .int 0, .int 0])), (q0, .inl (cy 0, 30, .inl (fun _ => 0))), (q1, .inl (cy 0, 30, .inl (fun _ => 0))), (q2, .inl (cy 0, 100, .inl (fun _ => 0)))] := hD
  refine va_putF (D := D) (v := .ref q2) (ty := .array .int) (C := RX6) (T := TX6) (N := 9) (ref := "GrainDole$Standing") hx hb hts hinX tyX6 tyX6_ok nmX6 hown hK hP hD hS 0 rfl rfl 4 (by decide) (hin _ uw_177) (fun _ h9 => h9) rfl hini rfl (by decide +kernel) rfl rfl (Nat.le_of_ble_eq_true rfl) (by decide +kernel) (fun H locs hP hD hS => ?_)
  have hP : va_P D vwCl [(h0, .inr (6, [.null, .null, .ref q0, .ref q1, .ref q2, .null, .null, .int 0, .int 0])), (q0, .inl (cy 0, 30, .inl (fun _ => 0))), (q1, .inl (cy 0, 30, .inl (fun _ => 0))), (q2, .inl (cy 0, 100, .inl (fun _ => 0)))] H := hP
  have hD : va_D A [(h0, .inr (6, [.null, .null, .ref q0, .ref q1, .ref q2, .null, .null, .int 0, .int 0])), (q0, .inl (cy 0, 30, .inl (fun _ => 0))), (q1, .inl (cy 0, 30, .inl (fun _ => 0))), (q2, .inl (cy 0, 100, .inl (fun _ => 0)))] := hD
  refine lv_aload_n (k := 0) hx hb (by decide +kernel) rfl (lv_at hl 0 rfl) ?_
  refine lv_bipush (n := 100) (v := 100) hx hb (by decide +kernel) (by decide) ?_
  refine va_newa (atype := .boolean) (ty := .boolean) (N' := 100) (a0 := (100, .inl (fun _ => 0))) hx hb (hin _ uw_116) rfl hK hP hD hS hA (fun _ => rfl) (by decide) (by decide) (by decide) (Nat.le_of_ble_eq_true rfl) (Nat.le_of_ble_eq_true rfl) (by decide +kernel) (fun q3 cA H hK1 hP hD hS => ?_)
  have ec : cA = cy 1 := ab_cls (i := 3) (j := 1) (by intro C h; cases h) hK1 rfl rfl
  subst ec
  have hP : va_P D vwCl [(h0, .inr (6, [.null, .null, .ref q0, .ref q1, .ref q2, .null, .null, .int 0, .int 0])), (q0, .inl (cy 0, 30, .inl (fun _ => 0))), (q1, .inl (cy 0, 30, .inl (fun _ => 0))), (q2, .inl (cy 0, 100, .inl (fun _ => 0))), (q3, .inl (cy 1, 100, .inl (fun _ => 0)))] H := hP
  have hD : va_D A [(h0, .inr (6, [.null, .null, .ref q0, .ref q1, .ref q2, .null, .null, .int 0, .int 0])), (q0, .inl (cy 0, 30, .inl (fun _ => 0))), (q1, .inl (cy 0, 30, .inl (fun _ => 0))), (q2, .inl (cy 0, 100, .inl (fun _ => 0))), (q3, .inl (cy 1, 100, .inl (fun _ => 0)))] := hD
  refine va_putF (D := D) (v := .ref q3) (ty := .array .boolean) (C := RX6) (T := TX6) (N := 9) (ref := "GrainDole$Standing") hx hb hts hinX tyX6 tyX6_ok nmX6 hown hK hP hD hS 0 rfl rfl 5 (by decide) (hin _ uw_178) (fun _ h9 => h9) rfl hini rfl (by decide +kernel) rfl rfl (Nat.le_of_ble_eq_true rfl) (by decide +kernel) (fun H locs hP hD hS => ?_)
  have hP : va_P D vwCl [(h0, .inr (6, [.null, .null, .ref q0, .ref q1, .ref q2, .ref q3, .null, .int 0, .int 0])), (q0, .inl (cy 0, 30, .inl (fun _ => 0))), (q1, .inl (cy 0, 30, .inl (fun _ => 0))), (q2, .inl (cy 0, 100, .inl (fun _ => 0))), (q3, .inl (cy 1, 100, .inl (fun _ => 0)))] H := hP
  have hD : va_D A [(h0, .inr (6, [.null, .null, .ref q0, .ref q1, .ref q2, .ref q3, .null, .int 0, .int 0])), (q0, .inl (cy 0, 30, .inl (fun _ => 0))), (q1, .inl (cy 0, 30, .inl (fun _ => 0))), (q2, .inl (cy 0, 100, .inl (fun _ => 0))), (q3, .inl (cy 1, 100, .inl (fun _ => 0)))] := hD
  refine lv_aload_n (k := 0) hx hb (by decide +kernel) rfl (lv_at hl 0 rfl) ?_
  refine lv_sipush (n := 150) (v := 150) hx hb (by decide +kernel) (by decide) ?_
  refine va_newa (atype := .boolean) (ty := .boolean) (N' := 150) (a0 := (150, .inl (fun _ => 0))) hx hb (hin _ uw_116) rfl hK hP hD hS hA (fun _ => rfl) (by decide) (by decide) (by decide) (Nat.le_of_ble_eq_true rfl) (Nat.le_of_ble_eq_true rfl) (by decide +kernel) (fun q4 cA H hK1 hP hD hS => ?_)
  have ec : cA = cy 1 := ab_cls (i := 3) (j := 1) (by intro C h; cases h) hK1 rfl rfl
  subst ec
  have hP : va_P D vwCl [(h0, .inr (6, [.null, .null, .ref q0, .ref q1, .ref q2, .ref q3, .null, .int 0, .int 0])), (q0, .inl (cy 0, 30, .inl (fun _ => 0))), (q1, .inl (cy 0, 30, .inl (fun _ => 0))), (q2, .inl (cy 0, 100, .inl (fun _ => 0))), (q3, .inl (cy 1, 100, .inl (fun _ => 0))), (q4, .inl (cy 1, 150, .inl (fun _ => 0)))] H := hP
  have hD : va_D A [(h0, .inr (6, [.null, .null, .ref q0, .ref q1, .ref q2, .ref q3, .null, .int 0, .int 0])), (q0, .inl (cy 0, 30, .inl (fun _ => 0))), (q1, .inl (cy 0, 30, .inl (fun _ => 0))), (q2, .inl (cy 0, 100, .inl (fun _ => 0))), (q3, .inl (cy 1, 100, .inl (fun _ => 0))), (q4, .inl (cy 1, 150, .inl (fun _ => 0)))] := hD
  refine va_putF (D := D) (v := .ref q4) (ty := .array .boolean) (C := RX6) (T := TX6) (N := 9) (ref := "GrainDole$Standing") hx hb hts hinX tyX6 tyX6_ok nmX6 hown hK hP hD hS 0 rfl rfl 6 (by decide) (hin _ uw_179) (fun _ h9 => h9) rfl hini rfl (by decide +kernel) rfl rfl (Nat.le_of_ble_eq_true rfl) (by decide +kernel) (fun H locs hP hD hS => ?_)
  have hP : va_P D vwCl [(h0, .inr (6, [.null, .null, .ref q0, .ref q1, .ref q2, .ref q3, .ref q4, .int 0, .int 0])), (q0, .inl (cy 0, 30, .inl (fun _ => 0))), (q1, .inl (cy 0, 30, .inl (fun _ => 0))), (q2, .inl (cy 0, 100, .inl (fun _ => 0))), (q3, .inl (cy 1, 100, .inl (fun _ => 0))), (q4, .inl (cy 1, 150, .inl (fun _ => 0)))] H := hP
  have hD : va_D A [(h0, .inr (6, [.null, .null, .ref q0, .ref q1, .ref q2, .ref q3, .ref q4, .int 0, .int 0])), (q0, .inl (cy 0, 30, .inl (fun _ => 0))), (q1, .inl (cy 0, 30, .inl (fun _ => 0))), (q2, .inl (cy 0, 100, .inl (fun _ => 0))), (q3, .inl (cy 1, 100, .inl (fun _ => 0))), (q4, .inl (cy 1, 150, .inl (fun _ => 0)))] := hD
  refine lv_aload_n (k := 0) hx hb (by decide +kernel) rfl (lv_at hl 0 rfl) ?_
  refine lv_iconst (n := 0) (v := 0) hx hb (by decide +kernel) (by decide) ?_
  refine va_put (D := D) (v := .int 0) (ty := .int) (C := RX6) (T := TX6) (N := 9) (ref := "GrainDole$Standing") hx hb hts hinX tyX6 tyX6_ok nmX6 hown hK hP hD hS 0 rfl rfl 7 (by decide) (hin _ uw_180) (fun _ h9 => h9) rfl (by decide +kernel) rfl rfl (Nat.le_of_ble_eq_true rfl) (by decide +kernel) (fun H locs hP hD hS => ?_)
  have hP : va_P D vwCl [(h0, .inr (6, [.null, .null, .ref q0, .ref q1, .ref q2, .ref q3, .ref q4, .int 0, .int 0])), (q0, .inl (cy 0, 30, .inl (fun _ => 0))), (q1, .inl (cy 0, 30, .inl (fun _ => 0))), (q2, .inl (cy 0, 100, .inl (fun _ => 0))), (q3, .inl (cy 1, 100, .inl (fun _ => 0))), (q4, .inl (cy 1, 150, .inl (fun _ => 0)))] H := hP
  have hD : va_D A [(h0, .inr (6, [.null, .null, .ref q0, .ref q1, .ref q2, .ref q3, .ref q4, .int 0, .int 0])), (q0, .inl (cy 0, 30, .inl (fun _ => 0))), (q1, .inl (cy 0, 30, .inl (fun _ => 0))), (q2, .inl (cy 0, 100, .inl (fun _ => 0))), (q3, .inl (cy 1, 100, .inl (fun _ => 0))), (q4, .inl (cy 1, 150, .inl (fun _ => 0)))] := hD
  refine lv_aload_n (k := 0) hx hb (by decide +kernel) rfl (lv_at hl 0 rfl) ?_
  refine lv_iconst (n := 0) (v := 0) hx hb (by decide +kernel) (by decide) ?_
  refine va_put (D := D) (v := .int 0) (ty := .int) (C := RX6) (T := TX6) (N := 9) (ref := "GrainDole$Standing") hx hb hts hinX tyX6 tyX6_ok nmX6 hown hK hP hD hS 0 rfl rfl 8 (by decide) (hin _ uw_181) (fun _ h9 => h9) rfl (by decide +kernel) rfl rfl (Nat.le_of_ble_eq_true rfl) (by decide +kernel) (fun H locs hP hD hS => ?_)
  have hP : va_P D vwCl [(h0, .inr (6, [.null, .null, .ref q0, .ref q1, .ref q2, .ref q3, .ref q4, .int 0, .int 0])), (q0, .inl (cy 0, 30, .inl (fun _ => 0))), (q1, .inl (cy 0, 30, .inl (fun _ => 0))), (q2, .inl (cy 0, 100, .inl (fun _ => 0))), (q3, .inl (cy 1, 100, .inl (fun _ => 0))), (q4, .inl (cy 1, 150, .inl (fun _ => 0)))] H := hP
  have hD : va_D A [(h0, .inr (6, [.null, .null, .ref q0, .ref q1, .ref q2, .ref q3, .ref q4, .int 0, .int 0])), (q0, .inl (cy 0, 30, .inl (fun _ => 0))), (q1, .inl (cy 0, 30, .inl (fun _ => 0))), (q2, .inl (cy 0, 100, .inl (fun _ => 0))), (q3, .inl (cy 1, 100, .inl (fun _ => 0))), (q4, .inl (cy 1, 150, .inl (fun _ => 0)))] := hD
  refine lv_aload_n (k := 0) hx hb (by decide +kernel) rfl (lv_at hl 0 rfl) ?_
  refine lv_aload_n (k := 1) hx hb (by decide +kernel) rfl (lv_at hl 1 rfl) ?_
  refine va_putF (D := D) (v := .ref r0) (ty := .object "GrainDole$Roll") (C := RX6) (T := TX6) (N := 9) (ref := "GrainDole$Standing") hx hb hts hinX tyX6 tyX6_ok nmX6 hown hK hP hD hS 0 rfl rfl 0 (by decide) (hin _ uw_173) (fun _ h9 => h9) rfl hini rfl (by decide +kernel) rfl rfl (Nat.le_of_ble_eq_true rfl) (by decide +kernel) (fun H locs hP hD hS => ?_)
  have hP : va_P D vwCl [(h0, .inr (6, [.ref r0, .null, .ref q0, .ref q1, .ref q2, .ref q3, .ref q4, .int 0, .int 0])), (q0, .inl (cy 0, 30, .inl (fun _ => 0))), (q1, .inl (cy 0, 30, .inl (fun _ => 0))), (q2, .inl (cy 0, 100, .inl (fun _ => 0))), (q3, .inl (cy 1, 100, .inl (fun _ => 0))), (q4, .inl (cy 1, 150, .inl (fun _ => 0)))] H := hP
  have hD : va_D A [(h0, .inr (6, [.ref r0, .null, .ref q0, .ref q1, .ref q2, .ref q3, .ref q4, .int 0, .int 0])), (q0, .inl (cy 0, 30, .inl (fun _ => 0))), (q1, .inl (cy 0, 30, .inl (fun _ => 0))), (q2, .inl (cy 0, 100, .inl (fun _ => 0))), (q3, .inl (cy 1, 100, .inl (fun _ => 0))), (q4, .inl (cy 1, 150, .inl (fun _ => 0)))] := hD
  refine lv_aload_n (k := 0) hx hb (by decide +kernel) rfl (lv_at hl 0 rfl) ?_
  refine lv_aload_n (k := 2) hx hb (by decide +kernel) rfl (lv_at hl 2 rfl) ?_
  refine va_putF (D := D) (v := .ref r1) (ty := .object "GrainDole$LawBook") (C := RX6) (T := TX6) (N := 9) (ref := "GrainDole$Standing") hx hb hts hinX tyX6 tyX6_ok nmX6 hown hK hP hD hS 0 rfl rfl 1 (by decide) (hin _ uw_174) (fun _ h9 => h9) rfl hini rfl (by decide +kernel) rfl rfl (Nat.le_of_ble_eq_true rfl) (by decide +kernel) (fun H locs hP hD hS => ?_)
  have hP : va_P D vwCl [(h0, .inr (6, [.ref r0, .ref r1, .ref q0, .ref q1, .ref q2, .ref q3, .ref q4, .int 0, .int 0])), (q0, .inl (cy 0, 30, .inl (fun _ => 0))), (q1, .inl (cy 0, 30, .inl (fun _ => 0))), (q2, .inl (cy 0, 100, .inl (fun _ => 0))), (q3, .inl (cy 1, 100, .inl (fun _ => 0))), (q4, .inl (cy 1, 150, .inl (fun _ => 0)))] H := hP
  have hD : va_D A [(h0, .inr (6, [.ref r0, .ref r1, .ref q0, .ref q1, .ref q2, .ref q3, .ref q4, .int 0, .int 0])), (q0, .inl (cy 0, 30, .inl (fun _ => 0))), (q1, .inl (cy 0, 30, .inl (fun _ => 0))), (q2, .inl (cy 0, 100, .inl (fun _ => 0))), (q3, .inl (cy 1, 100, .inl (fun _ => 0))), (q4, .inl (cy 1, 150, .inl (fun _ => 0)))] := hD
  refine W.widen (k := 5) (n := 410) (Nat.le_of_ble_eq_true rfl) (Nat.le_of_ble_eq_true rfl) ?_
  exact W.vret hx hb hr (fun t ht hW => ⟨⟨(), rfl, trivial, q0, q1, q2, q3, q4, by rw [ht]; exact hP, va_K.moved hW.alike hK, hD⟩, hS.F ht⟩) hS.2.2 (by decide +kernel)
set_option maxRecDepth 20000 in
set_option maxHeartbeats 4000000 in
theorem ct_X0 (l : Launch) (D : va_G) (cy : Nat → ClassId) (h0 sz : Nat) : Met l yX0_init (.code yX0_init cX0_init 1 none :: uw) { frames := 1, cells := 2, slots := 60, locals := 12 } (va_Pc [.ref h0] (fun U => U.heap.size = sz ∧ va_P D vwCl [(h0, .inr (0, [.null, .null, .int 0]))] U.heap ∧ va_K D vwCl (ab_tys cy) U ∧ va_D (fun _ => True) [(h0, .inr (0, [.null, .null, .int 0]))])) (va_Qv (fun _ : Unit => True) (fun _ t => ∃ (q0 q1 : Nat), va_P D vwCl [(h0, .inr (0, [.ref q0, .ref q1, .int 0])), (q0, .inl (cy 0, 30, .inl (fun _ => 0))), (q1, .inl (cy 0, 30, .inl (fun _ => 0)))] t.heap ∧ va_K D vwCl (ab_tys cy) t ∧ va_D (va_A [(h0, .inr (0, [.null, .null, .int 0]))] sz) [(h0, .inr (0, [.ref q0, .ref q1, .int 0])), (q0, .inl (cy 0, 30, .inl (fun _ => 0))), (q1, .inl (cy 0, 30, .inl (fun _ => 0)))]) (va_A [(h0, .inr (0, [.null, .null, .int 0]))] sz)) 2 60 (va_A [(h0, .inr (0, [.null, .null, .int 0]))] sz) := by
  refine Met.ofW (cc := cX0_init) (maxL := 1) (ret := none) (by decide +kernel) rfl ?_
  intro p e s m args below meth c s₁ B hml hv
  obtain ⟨rfl, hsz, hP, hK, hD0⟩ := hv
  subst hsz
  have hD := hD0.self (sz := s.heap.size)
  generalize hAe : va_A [(h0, .inr (0, [.null, .null, .int 0]))] s.heap.size = A at hD ⊢
  have hA : ∀ q : Nat, s.heap.size ≤ q → A q := fun q h => by rw [← hAe]; exact Or.inr h
  have hx := B.exec
  have hb : c.code = cX0_init := B.bytes
  have hr := B.returns
  have hlocks := B.notSynchronized
  have hini : meth.name = "<init>" := (name_of_methodNamed B.named B.method).1
  have hts := atoms_spec (ws := (Cond.code yX0_init cX0_init 1 none :: uw)) B.pre
  have hin : ∀ w ∈ uw, w.before ([Value.ref h0] : List Value).toArray s = true := fun w hw => hts w (List.mem_cons_of_mem _ hw)
  have hinX : ∀ w ∈ u_ws RX0 TX0 3, w ∈ (Cond.code yX0_init cX0_init 1 none :: uw) := fun w hw => List.mem_cons_of_mem _ (in_X0 w hw)
  have hown : s.vm.findClass RX0 = some m.cls := findClass_of_methodNamed B.named
  have hS : va_S A s.heap s.heap [] := va_S.rf
  have hl := lv_entry ([.ref h0]) (n := 1) (Nat.le_of_ble_eq_true rfl)
  rw [lg_entry_eq]
  generalize (lg_sl ([.ref h0]) ++ List.replicate (1 - (lg_sl ([.ref h0])).length) Slot.unset).toArray = ls at hl ⊢
  have hl : lv_has ls 1 [(0, .ref h0)] := hl
  obtain ⟨H, hH⟩ : ∃ H, H = s.heap := ⟨_, rfl⟩
  rw [← hH] at hP
  have hS : va_S A s.heap H [] := by rw [hH]; exact hS
  show W p l e _ s m _ below meth c s.heap [] 0 0 _ _
  rw [← hH]
  refine lv_aload_n (k := 0) hx hb (by decide +kernel) rfl (lv_at hl 0 rfl) ?_
  refine W.objInit hx hb hown (hin _ uw_206) (hin _ uw_75) (hin _ uw_76) rfl (by rw [hml]; exact hl.1) rfl (show decode cX0_init 1 = _ from by decide +kernel) (Nat.le_of_ble_eq_true rfl) (Nat.le_of_ble_eq_true rfl) ?_
  refine W.eq (g2 := F0 m 4 ls []) rfl ?_
  refine lv_aload_n (k := 0) hx hb (by decide +kernel) rfl (lv_at hl 0 rfl) ?_
  refine lv_bipush (n := 30) (v := 30) hx hb (by decide +kernel) (by decide) ?_
  refine va_newa (atype := .int) (ty := .int) (N' := 30) (a0 := (30, .inl (fun _ => 0))) hx hb (hin _ uw_90) rfl hK hP hD hS hA (fun _ => rfl) (by decide) (by decide) (by decide) (Nat.le_of_ble_eq_true rfl) (Nat.le_of_ble_eq_true rfl) (by decide +kernel) (fun q0 cA H hK1 hP hD hS => ?_)
  have ec : cA = cy 0 := ab_cls (i := 3) (j := 0) (by intro C h; cases h) hK1 rfl rfl
  subst ec
  have hP : va_P D vwCl [(h0, .inr (0, [.null, .null, .int 0])), (q0, .inl (cy 0, 30, .inl (fun _ => 0)))] H := hP
  have hD : va_D A [(h0, .inr (0, [.null, .null, .int 0])), (q0, .inl (cy 0, 30, .inl (fun _ => 0)))] := hD
  refine va_putF (D := D) (v := .ref q0) (ty := .array .int) (C := RX0) (T := TX0) (N := 3) (ref := "GrainDole$Fleet") hx hb hts hinX tyX0 tyX0_ok nmX0 hown hK hP hD hS 0 rfl rfl 0 (by decide) (hin _ uw_207) (fun _ h9 => h9) rfl hini rfl (by decide +kernel) rfl rfl (Nat.le_of_ble_eq_true rfl) (by decide +kernel) (fun H locs hP hD hS => ?_)
  have hP : va_P D vwCl [(h0, .inr (0, [.ref q0, .null, .int 0])), (q0, .inl (cy 0, 30, .inl (fun _ => 0)))] H := hP
  have hD : va_D A [(h0, .inr (0, [.ref q0, .null, .int 0])), (q0, .inl (cy 0, 30, .inl (fun _ => 0)))] := hD
  refine lv_aload_n (k := 0) hx hb (by decide +kernel) rfl (lv_at hl 0 rfl) ?_
  refine lv_bipush (n := 30) (v := 30) hx hb (by decide +kernel) (by decide) ?_
  refine va_newa (atype := .int) (ty := .int) (N' := 30) (a0 := (30, .inl (fun _ => 0))) hx hb (hin _ uw_90) rfl hK hP hD hS hA (fun _ => rfl) (by decide) (by decide) (by decide) (Nat.le_of_ble_eq_true rfl) (Nat.le_of_ble_eq_true rfl) (by decide +kernel) (fun q1 cA H hK1 hP hD hS => ?_)
  have ec : cA = cy 0 := ab_cls (i := 3) (j := 0) (by intro C h; cases h) hK1 rfl rfl
  subst ec
  have hP : va_P D vwCl [(h0, .inr (0, [.ref q0, .null, .int 0])), (q0, .inl (cy 0, 30, .inl (fun _ => 0))), (q1, .inl (cy 0, 30, .inl (fun _ => 0)))] H := hP
  have hD : va_D A [(h0, .inr (0, [.ref q0, .null, .int 0])), (q0, .inl (cy 0, 30, .inl (fun _ => 0))), (q1, .inl (cy 0, 30, .inl (fun _ => 0)))] := hD
  refine va_putF (D := D) (v := .ref q1) (ty := .array .int) (C := RX0) (T := TX0) (N := 3) (ref := "GrainDole$Fleet") hx hb hts hinX tyX0 tyX0_ok nmX0 hown hK hP hD hS 0 rfl rfl 1 (by decide) (hin _ uw_208) (fun _ h9 => h9) rfl hini rfl (by decide +kernel) rfl rfl (Nat.le_of_ble_eq_true rfl) (by decide +kernel) (fun H locs hP hD hS => ?_)
  have hP : va_P D vwCl [(h0, .inr (0, [.ref q0, .ref q1, .int 0])), (q0, .inl (cy 0, 30, .inl (fun _ => 0))), (q1, .inl (cy 0, 30, .inl (fun _ => 0)))] H := hP
  have hD : va_D A [(h0, .inr (0, [.ref q0, .ref q1, .int 0])), (q0, .inl (cy 0, 30, .inl (fun _ => 0))), (q1, .inl (cy 0, 30, .inl (fun _ => 0)))] := hD
  refine lv_aload_n (k := 0) hx hb (by decide +kernel) rfl (lv_at hl 0 rfl) ?_
  refine lv_iconst (n := 0) (v := 0) hx hb (by decide +kernel) (by decide) ?_
  refine va_put (D := D) (v := .int 0) (ty := .int) (C := RX0) (T := TX0) (N := 3) (ref := "GrainDole$Fleet") hx hb hts hinX tyX0 tyX0_ok nmX0 hown hK hP hD hS 0 rfl rfl 2 (by decide) (hin _ uw_209) (fun _ h9 => h9) rfl (by decide +kernel) rfl rfl (Nat.le_of_ble_eq_true rfl) (by decide +kernel) (fun H locs hP hD hS => ?_)
  have hP : va_P D vwCl [(h0, .inr (0, [.ref q0, .ref q1, .int 0])), (q0, .inl (cy 0, 30, .inl (fun _ => 0))), (q1, .inl (cy 0, 30, .inl (fun _ => 0)))] H := hP
  have hD : va_D A [(h0, .inr (0, [.ref q0, .ref q1, .int 0])), (q0, .inl (cy 0, 30, .inl (fun _ => 0))), (q1, .inl (cy 0, 30, .inl (fun _ => 0)))] := hD
  refine W.widen (k := 2) (n := 60) (Nat.le_of_ble_eq_true rfl) (Nat.le_of_ble_eq_true rfl) ?_
  exact W.vret hx hb hr (fun t ht hW => ⟨⟨(), rfl, trivial, q0, q1, by rw [ht]; exact hP, va_K.moved hW.alike hK, hD⟩, hS.F ht⟩) hS.2.2 (by decide +kernel)
set_option maxRecDepth 20000 in
set_option maxHeartbeats 4000000 in
theorem ct_X7 (l : Launch) (D : va_G) (cy : Nat → ClassId) (h0 sz : Nat) : Met l yX7_init (.code yX7_init cX7_init 1 none :: uw) { frames := 1, cells := 9, slots := 708, locals := 12 } (va_Pc [.ref h0] (fun U => U.heap.size = sz ∧ va_P D vwCl [(h0, .inr (7, [.null, .null, .null, .null, .null, .null, .null, .null, .null, .int 0]))] U.heap ∧ va_K D vwCl (ab_tys cy) U ∧ va_D (fun _ => True) [(h0, .inr (7, [.null, .null, .null, .null, .null, .null, .null, .null, .null, .int 0]))])) (va_Qv (fun _ : Unit => True) (fun _ t => ∃ (q0 q1 q2 q3 q4 q5 q6 q7 q8 : Nat), va_P D vwCl [(h0, .inr (7, [.ref q0, .ref q1, .ref q2, .ref q3, .ref q4, .ref q5, .ref q6, .ref q7, .ref q8, .int 0])), (q0, .inl (cy 0, 4, .inl (upd (upd (upd (upd (fun _ => 0) 0 1000) 1 1000) 2 1000) 3 1000))), (q1, .inl (cy 0, 4, .inl (fun _ => 0))), (q2, .inl (cy 0, 100, .inl (fun _ => 0))), (q3, .inl (cy 0, 100, .inl (fun _ => 0))), (q4, .inl (cy 0, 100, .inl (fun _ => 0))), (q5, .inl (cy 0, 100, .inl (fun _ => 0))), (q6, .inl (cy 0, 100, .inl (fun _ => 0))), (q7, .inl (cy 0, 100, .inl (fun _ => 0))), (q8, .inl (cy 1, 100, .inl (fun _ => 0)))] t.heap ∧ va_K D vwCl (ab_tys cy) t ∧ va_D (va_A [(h0, .inr (7, [.null, .null, .null, .null, .null, .null, .null, .null, .null, .int 0]))] sz) [(h0, .inr (7, [.ref q0, .ref q1, .ref q2, .ref q3, .ref q4, .ref q5, .ref q6, .ref q7, .ref q8, .int 0])), (q0, .inl (cy 0, 4, .inl (upd (upd (upd (upd (fun _ => 0) 0 1000) 1 1000) 2 1000) 3 1000))), (q1, .inl (cy 0, 4, .inl (fun _ => 0))), (q2, .inl (cy 0, 100, .inl (fun _ => 0))), (q3, .inl (cy 0, 100, .inl (fun _ => 0))), (q4, .inl (cy 0, 100, .inl (fun _ => 0))), (q5, .inl (cy 0, 100, .inl (fun _ => 0))), (q6, .inl (cy 0, 100, .inl (fun _ => 0))), (q7, .inl (cy 0, 100, .inl (fun _ => 0))), (q8, .inl (cy 1, 100, .inl (fun _ => 0)))]) (va_A [(h0, .inr (7, [.null, .null, .null, .null, .null, .null, .null, .null, .null, .int 0]))] sz)) 9 708 (va_A [(h0, .inr (7, [.null, .null, .null, .null, .null, .null, .null, .null, .null, .int 0]))] sz) := by
  refine Met.ofW (cc := cX7_init) (maxL := 1) (ret := none) (by decide +kernel) rfl ?_
  intro p e s m args below meth c s₁ B hml hv
  obtain ⟨rfl, hsz, hP, hK, hD0⟩ := hv
  subst hsz
  have hD := hD0.self (sz := s.heap.size)
  generalize hAe : va_A [(h0, .inr (7, [.null, .null, .null, .null, .null, .null, .null, .null, .null, .int 0]))] s.heap.size = A at hD ⊢
  have hA : ∀ q : Nat, s.heap.size ≤ q → A q := fun q h => by rw [← hAe]; exact Or.inr h
  have hx := B.exec
  have hb : c.code = cX7_init := B.bytes
  have hr := B.returns
  have hlocks := B.notSynchronized
  have hini : meth.name = "<init>" := (name_of_methodNamed B.named B.method).1
  have hts := atoms_spec (ws := (Cond.code yX7_init cX7_init 1 none :: uw)) B.pre
  have hin : ∀ w ∈ uw, w.before ([Value.ref h0] : List Value).toArray s = true := fun w hw => hts w (List.mem_cons_of_mem _ hw)
  have hinX : ∀ w ∈ u_ws RX7 TX7 10, w ∈ (Cond.code yX7_init cX7_init 1 none :: uw) := fun w hw => List.mem_cons_of_mem _ (in_X7 w hw)
  have hown : s.vm.findClass RX7 = some m.cls := findClass_of_methodNamed B.named
  have hS : va_S A s.heap s.heap [] := va_S.rf
  have hl := lv_entry ([.ref h0]) (n := 1) (Nat.le_of_ble_eq_true rfl)
  rw [lg_entry_eq]
  generalize (lg_sl ([.ref h0]) ++ List.replicate (1 - (lg_sl ([.ref h0])).length) Slot.unset).toArray = ls at hl ⊢
  have hl : lv_has ls 1 [(0, .ref h0)] := hl
  obtain ⟨H, hH⟩ : ∃ H, H = s.heap := ⟨_, rfl⟩
  rw [← hH] at hP
  have hS : va_S A s.heap H [] := by rw [hH]; exact hS
  show W p l e _ s m _ below meth c s.heap [] 0 0 _ _
  rw [← hH]
  refine lv_aload_n (k := 0) hx hb (by decide +kernel) rfl (lv_at hl 0 rfl) ?_
  refine W.objInit hx hb hown (hin _ uw_222) (hin _ uw_75) (hin _ uw_76) rfl (by rw [hml]; exact hl.1) rfl (show decode cX7_init 1 = _ from by decide +kernel) (Nat.le_of_ble_eq_true rfl) (Nat.le_of_ble_eq_true rfl) ?_
  refine W.eq (g2 := F0 m 4 ls []) rfl ?_
  refine lv_aload_n (k := 0) hx hb (by decide +kernel) rfl (lv_at hl 0 rfl) ?_
  refine lv_iconst (n := 4) (v := 4) hx hb (by decide +kernel) (by decide) ?_
  refine va_newa (atype := .int) (ty := .int) (N' := 4) (a0 := (4, .inl (fun _ => 0))) hx hb (hin _ uw_90) rfl hK hP hD hS hA (fun _ => rfl) (by decide) (by decide) (by decide) (Nat.le_of_ble_eq_true rfl) (Nat.le_of_ble_eq_true rfl) (by decide +kernel) (fun q0 cA H hK1 hP hD hS => ?_)
  have ec : cA = cy 0 := ab_cls (i := 3) (j := 0) (by intro C h; cases h) hK1 rfl rfl
  subst ec
  have hP : va_P D vwCl [(h0, .inr (7, [.null, .null, .null, .null, .null, .null, .null, .null, .null, .int 0])), (q0, .inl (cy 0, 4, .inl (fun _ => 0)))] H := hP
  have hD : va_D A [(h0, .inr (7, [.null, .null, .null, .null, .null, .null, .null, .null, .null, .int 0])), (q0, .inl (cy 0, 4, .inl (fun _ => 0)))] := hD
  refine lv_dup hx hb (by decide +kernel) rfl ?_
  refine lv_iconst (n := 0) (v := 0) hx hb (by decide +kernel) (by decide) ?_
  refine lv_sipush (n := 1000) (v := 1000) hx hb (by decide +kernel) (by decide) ?_
  refine va_iast (D := D) hx hb hK hP hD hS 1 0 rfl rfl (i := 0) (by unfold vp_in; decide) (by decide +kernel) (fun H locs hP hD hS => ?_)
  rw [show (0 : Int32).toNatClampNeg = 0 from by decide] at hP hD
  have hP : va_P D vwCl [(h0, .inr (7, [.null, .null, .null, .null, .null, .null, .null, .null, .null, .int 0])), (q0, .inl (cy 0, 4, .inl (upd (fun _ => 0) 0 1000)))] H := hP
  have hD : va_D A [(h0, .inr (7, [.null, .null, .null, .null, .null, .null, .null, .null, .null, .int 0])), (q0, .inl (cy 0, 4, .inl (upd (fun _ => 0) 0 1000)))] := hD
  refine lv_dup hx hb (by decide +kernel) rfl ?_
  refine lv_iconst (n := 1) (v := 1) hx hb (by decide +kernel) (by decide) ?_
  refine lv_sipush (n := 1000) (v := 1000) hx hb (by decide +kernel) (by decide) ?_
  refine va_iast (D := D) hx hb hK hP hD hS 1 0 rfl rfl (i := 1) (by unfold vp_in; decide) (by decide +kernel) (fun H locs hP hD hS => ?_)
  rw [show (1 : Int32).toNatClampNeg = 1 from by decide] at hP hD
  have hP : va_P D vwCl [(h0, .inr (7, [.null, .null, .null, .null, .null, .null, .null, .null, .null, .int 0])), (q0, .inl (cy 0, 4, .inl (upd (upd (fun _ => 0) 0 1000) 1 1000)))] H := hP
  have hD : va_D A [(h0, .inr (7, [.null, .null, .null, .null, .null, .null, .null, .null, .null, .int 0])), (q0, .inl (cy 0, 4, .inl (upd (upd (fun _ => 0) 0 1000) 1 1000)))] := hD
  refine lv_dup hx hb (by decide +kernel) rfl ?_
  refine lv_iconst (n := 2) (v := 2) hx hb (by decide +kernel) (by decide) ?_
  refine lv_sipush (n := 1000) (v := 1000) hx hb (by decide +kernel) (by decide) ?_
  refine va_iast (D := D) hx hb hK hP hD hS 1 0 rfl rfl (i := 2) (by unfold vp_in; decide) (by decide +kernel) (fun H locs hP hD hS => ?_)
  rw [show (2 : Int32).toNatClampNeg = 2 from by decide] at hP hD
  have hP : va_P D vwCl [(h0, .inr (7, [.null, .null, .null, .null, .null, .null, .null, .null, .null, .int 0])), (q0, .inl (cy 0, 4, .inl (upd (upd (upd (fun _ => 0) 0 1000) 1 1000) 2 1000)))] H := hP
  have hD : va_D A [(h0, .inr (7, [.null, .null, .null, .null, .null, .null, .null, .null, .null, .int 0])), (q0, .inl (cy 0, 4, .inl (upd (upd (upd (fun _ => 0) 0 1000) 1 1000) 2 1000)))] := hD
  refine lv_dup hx hb (by decide +kernel) rfl ?_
  refine lv_iconst (n := 3) (v := 3) hx hb (by decide +kernel) (by decide) ?_
  refine lv_sipush (n := 1000) (v := 1000) hx hb (by decide +kernel) (by decide) ?_
  refine va_iast (D := D) hx hb hK hP hD hS 1 0 rfl rfl (i := 3) (by unfold vp_in; decide) (by decide +kernel) (fun H locs hP hD hS => ?_)
  rw [show (3 : Int32).toNatClampNeg = 3 from by decide] at hP hD
  have hP : va_P D vwCl [(h0, .inr (7, [.null, .null, .null, .null, .null, .null, .null, .null, .null, .int 0])), (q0, .inl (cy 0, 4, .inl (upd (upd (upd (upd (fun _ => 0) 0 1000) 1 1000) 2 1000) 3 1000)))] H := hP
  have hD : va_D A [(h0, .inr (7, [.null, .null, .null, .null, .null, .null, .null, .null, .null, .int 0])), (q0, .inl (cy 0, 4, .inl (upd (upd (upd (upd (fun _ => 0) 0 1000) 1 1000) 2 1000) 3 1000)))] := hD
  refine va_putF (D := D) (v := .ref q0) (ty := .array .int) (C := RX7) (T := TX7) (N := 10) (ref := "GrainDole$Stores") hx hb hts hinX tyX7 tyX7_ok nmX7 hown hK hP hD hS 0 rfl rfl 0 (by decide) (hin _ uw_223) (fun _ h9 => h9) rfl hini rfl (by decide +kernel) rfl rfl (Nat.le_of_ble_eq_true rfl) (by decide +kernel) (fun H locs hP hD hS => ?_)
  have hP : va_P D vwCl [(h0, .inr (7, [.ref q0, .null, .null, .null, .null, .null, .null, .null, .null, .int 0])), (q0, .inl (cy 0, 4, .inl (upd (upd (upd (upd (fun _ => 0) 0 1000) 1 1000) 2 1000) 3 1000)))] H := hP
  have hD : va_D A [(h0, .inr (7, [.ref q0, .null, .null, .null, .null, .null, .null, .null, .null, .int 0])), (q0, .inl (cy 0, 4, .inl (upd (upd (upd (upd (fun _ => 0) 0 1000) 1 1000) 2 1000) 3 1000)))] := hD
  refine lv_aload_n (k := 0) hx hb (by decide +kernel) rfl (lv_at hl 0 rfl) ?_
  refine lv_iconst (n := 4) (v := 4) hx hb (by decide +kernel) (by decide) ?_
  refine va_newa (atype := .int) (ty := .int) (N' := 4) (a0 := (4, .inl (fun _ => 0))) hx hb (hin _ uw_90) rfl hK hP hD hS hA (fun _ => rfl) (by decide) (by decide) (by decide) (Nat.le_of_ble_eq_true rfl) (Nat.le_of_ble_eq_true rfl) (by decide +kernel) (fun q1 cA H hK1 hP hD hS => ?_)
  have ec : cA = cy 0 := ab_cls (i := 3) (j := 0) (by intro C h; cases h) hK1 rfl rfl
  subst ec
  have hP : va_P D vwCl [(h0, .inr (7, [.ref q0, .null, .null, .null, .null, .null, .null, .null, .null, .int 0])), (q0, .inl (cy 0, 4, .inl (upd (upd (upd (upd (fun _ => 0) 0 1000) 1 1000) 2 1000) 3 1000))), (q1, .inl (cy 0, 4, .inl (fun _ => 0)))] H := hP
  have hD : va_D A [(h0, .inr (7, [.ref q0, .null, .null, .null, .null, .null, .null, .null, .null, .int 0])), (q0, .inl (cy 0, 4, .inl (upd (upd (upd (upd (fun _ => 0) 0 1000) 1 1000) 2 1000) 3 1000))), (q1, .inl (cy 0, 4, .inl (fun _ => 0)))] := hD
  refine va_putF (D := D) (v := .ref q1) (ty := .array .int) (C := RX7) (T := TX7) (N := 10) (ref := "GrainDole$Stores") hx hb hts hinX tyX7 tyX7_ok nmX7 hown hK hP hD hS 0 rfl rfl 1 (by decide) (hin _ uw_224) (fun _ h9 => h9) rfl hini rfl (by decide +kernel) rfl rfl (Nat.le_of_ble_eq_true rfl) (by decide +kernel) (fun H locs hP hD hS => ?_)
  have hP : va_P D vwCl [(h0, .inr (7, [.ref q0, .ref q1, .null, .null, .null, .null, .null, .null, .null, .int 0])), (q0, .inl (cy 0, 4, .inl (upd (upd (upd (upd (fun _ => 0) 0 1000) 1 1000) 2 1000) 3 1000))), (q1, .inl (cy 0, 4, .inl (fun _ => 0)))] H := hP
  have hD : va_D A [(h0, .inr (7, [.ref q0, .ref q1, .null, .null, .null, .null, .null, .null, .null, .int 0])), (q0, .inl (cy 0, 4, .inl (upd (upd (upd (upd (fun _ => 0) 0 1000) 1 1000) 2 1000) 3 1000))), (q1, .inl (cy 0, 4, .inl (fun _ => 0)))] := hD
  refine lv_aload_n (k := 0) hx hb (by decide +kernel) rfl (lv_at hl 0 rfl) ?_
  refine lv_bipush (n := 100) (v := 100) hx hb (by decide +kernel) (by decide) ?_
  refine va_newa (atype := .int) (ty := .int) (N' := 100) (a0 := (100, .inl (fun _ => 0))) hx hb (hin _ uw_90) rfl hK hP hD hS hA (fun _ => rfl) (by decide) (by decide) (by decide) (Nat.le_of_ble_eq_true rfl) (Nat.le_of_ble_eq_true rfl) (by decide +kernel) (fun q2 cA H hK1 hP hD hS => ?_)
  have ec : cA = cy 0 := ab_cls (i := 3) (j := 0) (by intro C h; cases h) hK1 rfl rfl
  subst ec
  have hP : va_P D vwCl [(h0, .inr (7, [.ref q0, .ref q1, .null, .null, .null, .null, .null, .null, .null, .int 0])), (q0, .inl (cy 0, 4, .inl (upd (upd (upd (upd (fun _ => 0) 0 1000) 1 1000) 2 1000) 3 1000))), (q1, .inl (cy 0, 4, .inl (fun _ => 0))), (q2, .inl (cy 0, 100, .inl (fun _ => 0)))] H := hP
  have hD : va_D A [(h0, .inr (7, [.ref q0, .ref q1, .null, .null, .null, .null, .null, .null, .null, .int 0])), (q0, .inl (cy 0, 4, .inl (upd (upd (upd (upd (fun _ => 0) 0 1000) 1 1000) 2 1000) 3 1000))), (q1, .inl (cy 0, 4, .inl (fun _ => 0))), (q2, .inl (cy 0, 100, .inl (fun _ => 0)))] := hD
  refine va_putF (D := D) (v := .ref q2) (ty := .array .int) (C := RX7) (T := TX7) (N := 10) (ref := "GrainDole$Stores") hx hb hts hinX tyX7 tyX7_ok nmX7 hown hK hP hD hS 0 rfl rfl 2 (by decide) (hin _ uw_225) (fun _ h9 => h9) rfl hini rfl (by decide +kernel) rfl rfl (Nat.le_of_ble_eq_true rfl) (by decide +kernel) (fun H locs hP hD hS => ?_)
  have hP : va_P D vwCl [(h0, .inr (7, [.ref q0, .ref q1, .ref q2, .null, .null, .null, .null, .null, .null, .int 0])), (q0, .inl (cy 0, 4, .inl (upd (upd (upd (upd (fun _ => 0) 0 1000) 1 1000) 2 1000) 3 1000))), (q1, .inl (cy 0, 4, .inl (fun _ => 0))), (q2, .inl (cy 0, 100, .inl (fun _ => 0)))] H := hP
  have hD : va_D A [(h0, .inr (7, [.ref q0, .ref q1, .ref q2, .null, .null, .null, .null, .null, .null, .int 0])), (q0, .inl (cy 0, 4, .inl (upd (upd (upd (upd (fun _ => 0) 0 1000) 1 1000) 2 1000) 3 1000))), (q1, .inl (cy 0, 4, .inl (fun _ => 0))), (q2, .inl (cy 0, 100, .inl (fun _ => 0)))] := hD
  refine lv_aload_n (k := 0) hx hb (by decide +kernel) rfl (lv_at hl 0 rfl) ?_
  refine lv_bipush (n := 100) (v := 100) hx hb (by decide +kernel) (by decide) ?_
  refine va_newa (atype := .int) (ty := .int) (N' := 100) (a0 := (100, .inl (fun _ => 0))) hx hb (hin _ uw_90) rfl hK hP hD hS hA (fun _ => rfl) (by decide) (by decide) (by decide) (Nat.le_of_ble_eq_true rfl) (Nat.le_of_ble_eq_true rfl) (by decide +kernel) (fun q3 cA H hK1 hP hD hS => ?_)
  have ec : cA = cy 0 := ab_cls (i := 3) (j := 0) (by intro C h; cases h) hK1 rfl rfl
  subst ec
  have hP : va_P D vwCl [(h0, .inr (7, [.ref q0, .ref q1, .ref q2, .null, .null, .null, .null, .null, .null, .int 0])), (q0, .inl (cy 0, 4, .inl (upd (upd (upd (upd (fun _ => 0) 0 1000) 1 1000) 2 1000) 3 1000))), (q1, .inl (cy 0, 4, .inl (fun _ => 0))), (q2, .inl (cy 0, 100, .inl (fun _ => 0))), (q3, .inl (cy 0, 100, .inl (fun _ => 0)))] H := hP
  have hD : va_D A [(h0, .inr (7, [.ref q0, .ref q1, .ref q2, .null, .null, .null, .null, .null, .null, .int 0])), (q0, .inl (cy 0, 4, .inl (upd (upd (upd (upd (fun _ => 0) 0 1000) 1 1000) 2 1000) 3 1000))), (q1, .inl (cy 0, 4, .inl (fun _ => 0))), (q2, .inl (cy 0, 100, .inl (fun _ => 0))), (q3, .inl (cy 0, 100, .inl (fun _ => 0)))] := hD
  refine va_putF (D := D) (v := .ref q3) (ty := .array .int) (C := RX7) (T := TX7) (N := 10) (ref := "GrainDole$Stores") hx hb hts hinX tyX7 tyX7_ok nmX7 hown hK hP hD hS 0 rfl rfl 3 (by decide) (hin _ uw_226) (fun _ h9 => h9) rfl hini rfl (by decide +kernel) rfl rfl (Nat.le_of_ble_eq_true rfl) (by decide +kernel) (fun H locs hP hD hS => ?_)
  have hP : va_P D vwCl [(h0, .inr (7, [.ref q0, .ref q1, .ref q2, .ref q3, .null, .null, .null, .null, .null, .int 0])), (q0, .inl (cy 0, 4, .inl (upd (upd (upd (upd (fun _ => 0) 0 1000) 1 1000) 2 1000) 3 1000))), (q1, .inl (cy 0, 4, .inl (fun _ => 0))), (q2, .inl (cy 0, 100, .inl (fun _ => 0))), (q3, .inl (cy 0, 100, .inl (fun _ => 0)))] H := hP
  have hD : va_D A [(h0, .inr (7, [.ref q0, .ref q1, .ref q2, .ref q3, .null, .null, .null, .null, .null, .int 0])), (q0, .inl (cy 0, 4, .inl (upd (upd (upd (upd (fun _ => 0) 0 1000) 1 1000) 2 1000) 3 1000))), (q1, .inl (cy 0, 4, .inl (fun _ => 0))), (q2, .inl (cy 0, 100, .inl (fun _ => 0))), (q3, .inl (cy 0, 100, .inl (fun _ => 0)))] := hD
  refine lv_aload_n (k := 0) hx hb (by decide +kernel) rfl (lv_at hl 0 rfl) ?_
  refine lv_bipush (n := 100) (v := 100) hx hb (by decide +kernel) (by decide) ?_
  refine va_newa (atype := .int) (ty := .int) (N' := 100) (a0 := (100, .inl (fun _ => 0))) hx hb (hin _ uw_90) rfl hK hP hD hS hA (fun _ => rfl) (by decide) (by decide) (by decide) (Nat.le_of_ble_eq_true rfl) (Nat.le_of_ble_eq_true rfl) (by decide +kernel) (fun q4 cA H hK1 hP hD hS => ?_)
  have ec : cA = cy 0 := ab_cls (i := 3) (j := 0) (by intro C h; cases h) hK1 rfl rfl
  subst ec
  have hP : va_P D vwCl [(h0, .inr (7, [.ref q0, .ref q1, .ref q2, .ref q3, .null, .null, .null, .null, .null, .int 0])), (q0, .inl (cy 0, 4, .inl (upd (upd (upd (upd (fun _ => 0) 0 1000) 1 1000) 2 1000) 3 1000))), (q1, .inl (cy 0, 4, .inl (fun _ => 0))), (q2, .inl (cy 0, 100, .inl (fun _ => 0))), (q3, .inl (cy 0, 100, .inl (fun _ => 0))), (q4, .inl (cy 0, 100, .inl (fun _ => 0)))] H := hP
  have hD : va_D A [(h0, .inr (7, [.ref q0, .ref q1, .ref q2, .ref q3, .null, .null, .null, .null, .null, .int 0])), (q0, .inl (cy 0, 4, .inl (upd (upd (upd (upd (fun _ => 0) 0 1000) 1 1000) 2 1000) 3 1000))), (q1, .inl (cy 0, 4, .inl (fun _ => 0))), (q2, .inl (cy 0, 100, .inl (fun _ => 0))), (q3, .inl (cy 0, 100, .inl (fun _ => 0))), (q4, .inl (cy 0, 100, .inl (fun _ => 0)))] := hD
  refine va_putF (D := D) (v := .ref q4) (ty := .array .int) (C := RX7) (T := TX7) (N := 10) (ref := "GrainDole$Stores") hx hb hts hinX tyX7 tyX7_ok nmX7 hown hK hP hD hS 0 rfl rfl 4 (by decide) (hin _ uw_227) (fun _ h9 => h9) rfl hini rfl (by decide +kernel) rfl rfl (Nat.le_of_ble_eq_true rfl) (by decide +kernel) (fun H locs hP hD hS => ?_)
  have hP : va_P D vwCl [(h0, .inr (7, [.ref q0, .ref q1, .ref q2, .ref q3, .ref q4, .null, .null, .null, .null, .int 0])), (q0, .inl (cy 0, 4, .inl (upd (upd (upd (upd (fun _ => 0) 0 1000) 1 1000) 2 1000) 3 1000))), (q1, .inl (cy 0, 4, .inl (fun _ => 0))), (q2, .inl (cy 0, 100, .inl (fun _ => 0))), (q3, .inl (cy 0, 100, .inl (fun _ => 0))), (q4, .inl (cy 0, 100, .inl (fun _ => 0)))] H := hP
  have hD : va_D A [(h0, .inr (7, [.ref q0, .ref q1, .ref q2, .ref q3, .ref q4, .null, .null, .null, .null, .int 0])), (q0, .inl (cy 0, 4, .inl (upd (upd (upd (upd (fun _ => 0) 0 1000) 1 1000) 2 1000) 3 1000))), (q1, .inl (cy 0, 4, .inl (fun _ => 0))), (q2, .inl (cy 0, 100, .inl (fun _ => 0))), (q3, .inl (cy 0, 100, .inl (fun _ => 0))), (q4, .inl (cy 0, 100, .inl (fun _ => 0)))] := hD
  refine lv_aload_n (k := 0) hx hb (by decide +kernel) rfl (lv_at hl 0 rfl) ?_
  refine lv_bipush (n := 100) (v := 100) hx hb (by decide +kernel) (by decide) ?_
  refine va_newa (atype := .int) (ty := .int) (N' := 100) (a0 := (100, .inl (fun _ => 0))) hx hb (hin _ uw_90) rfl hK hP hD hS hA (fun _ => rfl) (by decide) (by decide) (by decide) (Nat.le_of_ble_eq_true rfl) (Nat.le_of_ble_eq_true rfl) (by decide +kernel) (fun q5 cA H hK1 hP hD hS => ?_)
  have ec : cA = cy 0 := ab_cls (i := 3) (j := 0) (by intro C h; cases h) hK1 rfl rfl
  subst ec
  have hP : va_P D vwCl [(h0, .inr (7, [.ref q0, .ref q1, .ref q2, .ref q3, .ref q4, .null, .null, .null, .null, .int 0])), (q0, .inl (cy 0, 4, .inl (upd (upd (upd (upd (fun _ => 0) 0 1000) 1 1000) 2 1000) 3 1000))), (q1, .inl (cy 0, 4, .inl (fun _ => 0))), (q2, .inl (cy 0, 100, .inl (fun _ => 0))), (q3, .inl (cy 0, 100, .inl (fun _ => 0))), (q4, .inl (cy 0, 100, .inl (fun _ => 0))), (q5, .inl (cy 0, 100, .inl (fun _ => 0)))] H := hP
  have hD : va_D A [(h0, .inr (7, [.ref q0, .ref q1, .ref q2, .ref q3, .ref q4, .null, .null, .null, .null, .int 0])), (q0, .inl (cy 0, 4, .inl (upd (upd (upd (upd (fun _ => 0) 0 1000) 1 1000) 2 1000) 3 1000))), (q1, .inl (cy 0, 4, .inl (fun _ => 0))), (q2, .inl (cy 0, 100, .inl (fun _ => 0))), (q3, .inl (cy 0, 100, .inl (fun _ => 0))), (q4, .inl (cy 0, 100, .inl (fun _ => 0))), (q5, .inl (cy 0, 100, .inl (fun _ => 0)))] := hD
  refine va_putF (D := D) (v := .ref q5) (ty := .array .int) (C := RX7) (T := TX7) (N := 10) (ref := "GrainDole$Stores") hx hb hts hinX tyX7 tyX7_ok nmX7 hown hK hP hD hS 0 rfl rfl 5 (by decide) (hin _ uw_228) (fun _ h9 => h9) rfl hini rfl (by decide +kernel) rfl rfl (Nat.le_of_ble_eq_true rfl) (by decide +kernel) (fun H locs hP hD hS => ?_)
  have hP : va_P D vwCl [(h0, .inr (7, [.ref q0, .ref q1, .ref q2, .ref q3, .ref q4, .ref q5, .null, .null, .null, .int 0])), (q0, .inl (cy 0, 4, .inl (upd (upd (upd (upd (fun _ => 0) 0 1000) 1 1000) 2 1000) 3 1000))), (q1, .inl (cy 0, 4, .inl (fun _ => 0))), (q2, .inl (cy 0, 100, .inl (fun _ => 0))), (q3, .inl (cy 0, 100, .inl (fun _ => 0))), (q4, .inl (cy 0, 100, .inl (fun _ => 0))), (q5, .inl (cy 0, 100, .inl (fun _ => 0)))] H := hP
  have hD : va_D A [(h0, .inr (7, [.ref q0, .ref q1, .ref q2, .ref q3, .ref q4, .ref q5, .null, .null, .null, .int 0])), (q0, .inl (cy 0, 4, .inl (upd (upd (upd (upd (fun _ => 0) 0 1000) 1 1000) 2 1000) 3 1000))), (q1, .inl (cy 0, 4, .inl (fun _ => 0))), (q2, .inl (cy 0, 100, .inl (fun _ => 0))), (q3, .inl (cy 0, 100, .inl (fun _ => 0))), (q4, .inl (cy 0, 100, .inl (fun _ => 0))), (q5, .inl (cy 0, 100, .inl (fun _ => 0)))] := hD
  refine lv_aload_n (k := 0) hx hb (by decide +kernel) rfl (lv_at hl 0 rfl) ?_
  refine lv_bipush (n := 100) (v := 100) hx hb (by decide +kernel) (by decide) ?_
  refine va_newa (atype := .int) (ty := .int) (N' := 100) (a0 := (100, .inl (fun _ => 0))) hx hb (hin _ uw_90) rfl hK hP hD hS hA (fun _ => rfl) (by decide) (by decide) (by decide) (Nat.le_of_ble_eq_true rfl) (Nat.le_of_ble_eq_true rfl) (by decide +kernel) (fun q6 cA H hK1 hP hD hS => ?_)
  have ec : cA = cy 0 := ab_cls (i := 3) (j := 0) (by intro C h; cases h) hK1 rfl rfl
  subst ec
  have hP : va_P D vwCl [(h0, .inr (7, [.ref q0, .ref q1, .ref q2, .ref q3, .ref q4, .ref q5, .null, .null, .null, .int 0])), (q0, .inl (cy 0, 4, .inl (upd (upd (upd (upd (fun _ => 0) 0 1000) 1 1000) 2 1000) 3 1000))), (q1, .inl (cy 0, 4, .inl (fun _ => 0))), (q2, .inl (cy 0, 100, .inl (fun _ => 0))), (q3, .inl (cy 0, 100, .inl (fun _ => 0))), (q4, .inl (cy 0, 100, .inl (fun _ => 0))), (q5, .inl (cy 0, 100, .inl (fun _ => 0))), (q6, .inl (cy 0, 100, .inl (fun _ => 0)))] H := hP
  have hD : va_D A [(h0, .inr (7, [.ref q0, .ref q1, .ref q2, .ref q3, .ref q4, .ref q5, .null, .null, .null, .int 0])), (q0, .inl (cy 0, 4, .inl (upd (upd (upd (upd (fun _ => 0) 0 1000) 1 1000) 2 1000) 3 1000))), (q1, .inl (cy 0, 4, .inl (fun _ => 0))), (q2, .inl (cy 0, 100, .inl (fun _ => 0))), (q3, .inl (cy 0, 100, .inl (fun _ => 0))), (q4, .inl (cy 0, 100, .inl (fun _ => 0))), (q5, .inl (cy 0, 100, .inl (fun _ => 0))), (q6, .inl (cy 0, 100, .inl (fun _ => 0)))] := hD
  refine va_putF (D := D) (v := .ref q6) (ty := .array .int) (C := RX7) (T := TX7) (N := 10) (ref := "GrainDole$Stores") hx hb hts hinX tyX7 tyX7_ok nmX7 hown hK hP hD hS 0 rfl rfl 6 (by decide) (hin _ uw_229) (fun _ h9 => h9) rfl hini rfl (by decide +kernel) rfl rfl (Nat.le_of_ble_eq_true rfl) (by decide +kernel) (fun H locs hP hD hS => ?_)
  have hP : va_P D vwCl [(h0, .inr (7, [.ref q0, .ref q1, .ref q2, .ref q3, .ref q4, .ref q5, .ref q6, .null, .null, .int 0])), (q0, .inl (cy 0, 4, .inl (upd (upd (upd (upd (fun _ => 0) 0 1000) 1 1000) 2 1000) 3 1000))), (q1, .inl (cy 0, 4, .inl (fun _ => 0))), (q2, .inl (cy 0, 100, .inl (fun _ => 0))), (q3, .inl (cy 0, 100, .inl (fun _ => 0))), (q4, .inl (cy 0, 100, .inl (fun _ => 0))), (q5, .inl (cy 0, 100, .inl (fun _ => 0))), (q6, .inl (cy 0, 100, .inl (fun _ => 0)))] H := hP
  have hD : va_D A [(h0, .inr (7, [.ref q0, .ref q1, .ref q2, .ref q3, .ref q4, .ref q5, .ref q6, .null, .null, .int 0])), (q0, .inl (cy 0, 4, .inl (upd (upd (upd (upd (fun _ => 0) 0 1000) 1 1000) 2 1000) 3 1000))), (q1, .inl (cy 0, 4, .inl (fun _ => 0))), (q2, .inl (cy 0, 100, .inl (fun _ => 0))), (q3, .inl (cy 0, 100, .inl (fun _ => 0))), (q4, .inl (cy 0, 100, .inl (fun _ => 0))), (q5, .inl (cy 0, 100, .inl (fun _ => 0))), (q6, .inl (cy 0, 100, .inl (fun _ => 0)))] := hD
  refine lv_aload_n (k := 0) hx hb (by decide +kernel) rfl (lv_at hl 0 rfl) ?_
  refine lv_bipush (n := 100) (v := 100) hx hb (by decide +kernel) (by decide) ?_
  refine va_newa (atype := .int) (ty := .int) (N' := 100) (a0 := (100, .inl (fun _ => 0))) hx hb (hin _ uw_90) rfl hK hP hD hS hA (fun _ => rfl) (by decide) (by decide) (by decide) (Nat.le_of_ble_eq_true rfl) (Nat.le_of_ble_eq_true rfl) (by decide +kernel) (fun q7 cA H hK1 hP hD hS => ?_)
  have ec : cA = cy 0 := ab_cls (i := 3) (j := 0) (by intro C h; cases h) hK1 rfl rfl
  subst ec
  have hP : va_P D vwCl [(h0, .inr (7, [.ref q0, .ref q1, .ref q2, .ref q3, .ref q4, .ref q5, .ref q6, .null, .null, .int 0])), (q0, .inl (cy 0, 4, .inl (upd (upd (upd (upd (fun _ => 0) 0 1000) 1 1000) 2 1000) 3 1000))), (q1, .inl (cy 0, 4, .inl (fun _ => 0))), (q2, .inl (cy 0, 100, .inl (fun _ => 0))), (q3, .inl (cy 0, 100, .inl (fun _ => 0))), (q4, .inl (cy 0, 100, .inl (fun _ => 0))), (q5, .inl (cy 0, 100, .inl (fun _ => 0))), (q6, .inl (cy 0, 100, .inl (fun _ => 0))), (q7, .inl (cy 0, 100, .inl (fun _ => 0)))] H := hP
  have hD : va_D A [(h0, .inr (7, [.ref q0, .ref q1, .ref q2, .ref q3, .ref q4, .ref q5, .ref q6, .null, .null, .int 0])), (q0, .inl (cy 0, 4, .inl (upd (upd (upd (upd (fun _ => 0) 0 1000) 1 1000) 2 1000) 3 1000))), (q1, .inl (cy 0, 4, .inl (fun _ => 0))), (q2, .inl (cy 0, 100, .inl (fun _ => 0))), (q3, .inl (cy 0, 100, .inl (fun _ => 0))), (q4, .inl (cy 0, 100, .inl (fun _ => 0))), (q5, .inl (cy 0, 100, .inl (fun _ => 0))), (q6, .inl (cy 0, 100, .inl (fun _ => 0))), (q7, .inl (cy 0, 100, .inl (fun _ => 0)))] := hD
  refine va_putF (D := D) (v := .ref q7) (ty := .array .int) (C := RX7) (T := TX7) (N := 10) (ref := "GrainDole$Stores") hx hb hts hinX tyX7 tyX7_ok nmX7 hown hK hP hD hS 0 rfl rfl 7 (by decide) (hin _ uw_230) (fun _ h9 => h9) rfl hini rfl (by decide +kernel) rfl rfl (Nat.le_of_ble_eq_true rfl) (by decide +kernel) (fun H locs hP hD hS => ?_)
  have hP : va_P D vwCl [(h0, .inr (7, [.ref q0, .ref q1, .ref q2, .ref q3, .ref q4, .ref q5, .ref q6, .ref q7, .null, .int 0])), (q0, .inl (cy 0, 4, .inl (upd (upd (upd (upd (fun _ => 0) 0 1000) 1 1000) 2 1000) 3 1000))), (q1, .inl (cy 0, 4, .inl (fun _ => 0))), (q2, .inl (cy 0, 100, .inl (fun _ => 0))), (q3, .inl (cy 0, 100, .inl (fun _ => 0))), (q4, .inl (cy 0, 100, .inl (fun _ => 0))), (q5, .inl (cy 0, 100, .inl (fun _ => 0))), (q6, .inl (cy 0, 100, .inl (fun _ => 0))), (q7, .inl (cy 0, 100, .inl (fun _ => 0)))] H := hP
  have hD : va_D A [(h0, .inr (7, [.ref q0, .ref q1, .ref q2, .ref q3, .ref q4, .ref q5, .ref q6, .ref q7, .null, .int 0])), (q0, .inl (cy 0, 4, .inl (upd (upd (upd (upd (fun _ => 0) 0 1000) 1 1000) 2 1000) 3 1000))), (q1, .inl (cy 0, 4, .inl (fun _ => 0))), (q2, .inl (cy 0, 100, .inl (fun _ => 0))), (q3, .inl (cy 0, 100, .inl (fun _ => 0))), (q4, .inl (cy 0, 100, .inl (fun _ => 0))), (q5, .inl (cy 0, 100, .inl (fun _ => 0))), (q6, .inl (cy 0, 100, .inl (fun _ => 0))), (q7, .inl (cy 0, 100, .inl (fun _ => 0)))] := hD
  refine lv_aload_n (k := 0) hx hb (by decide +kernel) rfl (lv_at hl 0 rfl) ?_
  refine lv_bipush (n := 100) (v := 100) hx hb (by decide +kernel) (by decide) ?_
  refine va_newa (atype := .boolean) (ty := .boolean) (N' := 100) (a0 := (100, .inl (fun _ => 0))) hx hb (hin _ uw_116) rfl hK hP hD hS hA (fun _ => rfl) (by decide) (by decide) (by decide) (Nat.le_of_ble_eq_true rfl) (Nat.le_of_ble_eq_true rfl) (by decide +kernel) (fun q8 cA H hK1 hP hD hS => ?_)
  have ec : cA = cy 1 := ab_cls (i := 3) (j := 1) (by intro C h; cases h) hK1 rfl rfl
  subst ec
  have hP : va_P D vwCl [(h0, .inr (7, [.ref q0, .ref q1, .ref q2, .ref q3, .ref q4, .ref q5, .ref q6, .ref q7, .null, .int 0])), (q0, .inl (cy 0, 4, .inl (upd (upd (upd (upd (fun _ => 0) 0 1000) 1 1000) 2 1000) 3 1000))), (q1, .inl (cy 0, 4, .inl (fun _ => 0))), (q2, .inl (cy 0, 100, .inl (fun _ => 0))), (q3, .inl (cy 0, 100, .inl (fun _ => 0))), (q4, .inl (cy 0, 100, .inl (fun _ => 0))), (q5, .inl (cy 0, 100, .inl (fun _ => 0))), (q6, .inl (cy 0, 100, .inl (fun _ => 0))), (q7, .inl (cy 0, 100, .inl (fun _ => 0))), (q8, .inl (cy 1, 100, .inl (fun _ => 0)))] H := hP
  have hD : va_D A [(h0, .inr (7, [.ref q0, .ref q1, .ref q2, .ref q3, .ref q4, .ref q5, .ref q6, .ref q7, .null, .int 0])), (q0, .inl (cy 0, 4, .inl (upd (upd (upd (upd (fun _ => 0) 0 1000) 1 1000) 2 1000) 3 1000))), (q1, .inl (cy 0, 4, .inl (fun _ => 0))), (q2, .inl (cy 0, 100, .inl (fun _ => 0))), (q3, .inl (cy 0, 100, .inl (fun _ => 0))), (q4, .inl (cy 0, 100, .inl (fun _ => 0))), (q5, .inl (cy 0, 100, .inl (fun _ => 0))), (q6, .inl (cy 0, 100, .inl (fun _ => 0))), (q7, .inl (cy 0, 100, .inl (fun _ => 0))), (q8, .inl (cy 1, 100, .inl (fun _ => 0)))] := hD
  refine va_putF (D := D) (v := .ref q8) (ty := .array .boolean) (C := RX7) (T := TX7) (N := 10) (ref := "GrainDole$Stores") hx hb hts hinX tyX7 tyX7_ok nmX7 hown hK hP hD hS 0 rfl rfl 8 (by decide) (hin _ uw_231) (fun _ h9 => h9) rfl hini rfl (by decide +kernel) rfl rfl (Nat.le_of_ble_eq_true rfl) (by decide +kernel) (fun H locs hP hD hS => ?_)
  have hP : va_P D vwCl [(h0, .inr (7, [.ref q0, .ref q1, .ref q2, .ref q3, .ref q4, .ref q5, .ref q6, .ref q7, .ref q8, .int 0])), (q0, .inl (cy 0, 4, .inl (upd (upd (upd (upd (fun _ => 0) 0 1000) 1 1000) 2 1000) 3 1000))), (q1, .inl (cy 0, 4, .inl (fun _ => 0))), (q2, .inl (cy 0, 100, .inl (fun _ => 0))), (q3, .inl (cy 0, 100, .inl (fun _ => 0))), (q4, .inl (cy 0, 100, .inl (fun _ => 0))), (q5, .inl (cy 0, 100, .inl (fun _ => 0))), (q6, .inl (cy 0, 100, .inl (fun _ => 0))), (q7, .inl (cy 0, 100, .inl (fun _ => 0))), (q8, .inl (cy 1, 100, .inl (fun _ => 0)))] H := hP
  have hD : va_D A [(h0, .inr (7, [.ref q0, .ref q1, .ref q2, .ref q3, .ref q4, .ref q5, .ref q6, .ref q7, .ref q8, .int 0])), (q0, .inl (cy 0, 4, .inl (upd (upd (upd (upd (fun _ => 0) 0 1000) 1 1000) 2 1000) 3 1000))), (q1, .inl (cy 0, 4, .inl (fun _ => 0))), (q2, .inl (cy 0, 100, .inl (fun _ => 0))), (q3, .inl (cy 0, 100, .inl (fun _ => 0))), (q4, .inl (cy 0, 100, .inl (fun _ => 0))), (q5, .inl (cy 0, 100, .inl (fun _ => 0))), (q6, .inl (cy 0, 100, .inl (fun _ => 0))), (q7, .inl (cy 0, 100, .inl (fun _ => 0))), (q8, .inl (cy 1, 100, .inl (fun _ => 0)))] := hD
  refine lv_aload_n (k := 0) hx hb (by decide +kernel) rfl (lv_at hl 0 rfl) ?_
  refine lv_iconst (n := 0) (v := 0) hx hb (by decide +kernel) (by decide) ?_
  refine va_put (D := D) (v := .int 0) (ty := .int) (C := RX7) (T := TX7) (N := 10) (ref := "GrainDole$Stores") hx hb hts hinX tyX7 tyX7_ok nmX7 hown hK hP hD hS 0 rfl rfl 9 (by decide) (hin _ uw_232) (fun _ h9 => h9) rfl (by decide +kernel) rfl rfl (Nat.le_of_ble_eq_true rfl) (by decide +kernel) (fun H locs hP hD hS => ?_)
  have hP : va_P D vwCl [(h0, .inr (7, [.ref q0, .ref q1, .ref q2, .ref q3, .ref q4, .ref q5, .ref q6, .ref q7, .ref q8, .int 0])), (q0, .inl (cy 0, 4, .inl (upd (upd (upd (upd (fun _ => 0) 0 1000) 1 1000) 2 1000) 3 1000))), (q1, .inl (cy 0, 4, .inl (fun _ => 0))), (q2, .inl (cy 0, 100, .inl (fun _ => 0))), (q3, .inl (cy 0, 100, .inl (fun _ => 0))), (q4, .inl (cy 0, 100, .inl (fun _ => 0))), (q5, .inl (cy 0, 100, .inl (fun _ => 0))), (q6, .inl (cy 0, 100, .inl (fun _ => 0))), (q7, .inl (cy 0, 100, .inl (fun _ => 0))), (q8, .inl (cy 1, 100, .inl (fun _ => 0)))] H := hP
  have hD : va_D A [(h0, .inr (7, [.ref q0, .ref q1, .ref q2, .ref q3, .ref q4, .ref q5, .ref q6, .ref q7, .ref q8, .int 0])), (q0, .inl (cy 0, 4, .inl (upd (upd (upd (upd (fun _ => 0) 0 1000) 1 1000) 2 1000) 3 1000))), (q1, .inl (cy 0, 4, .inl (fun _ => 0))), (q2, .inl (cy 0, 100, .inl (fun _ => 0))), (q3, .inl (cy 0, 100, .inl (fun _ => 0))), (q4, .inl (cy 0, 100, .inl (fun _ => 0))), (q5, .inl (cy 0, 100, .inl (fun _ => 0))), (q6, .inl (cy 0, 100, .inl (fun _ => 0))), (q7, .inl (cy 0, 100, .inl (fun _ => 0))), (q8, .inl (cy 1, 100, .inl (fun _ => 0)))] := hD
  refine W.widen (k := 9) (n := 708) (Nat.le_of_ble_eq_true rfl) (Nat.le_of_ble_eq_true rfl) ?_
  exact W.vret hx hb hr (fun t ht hW => ⟨⟨(), rfl, trivial, q0, q1, q2, q3, q4, q5, q6, q7, q8, by rw [ht]; exact hP, va_K.moved hW.alike hK, hD⟩, hS.F ht⟩) hS.2.2 (by decide +kernel)
set_option maxRecDepth 20000 in
set_option maxHeartbeats 4000000 in
theorem ct_X9 (l : Launch) (D : va_G) (cy : Nat → ClassId) (h0 sz : Nat) : Met l yX9_init (.code yX9_init cX9_init 1 none :: uw) { frames := 1, cells := 3, slots := 64, locals := 12 } (va_Pc [.ref h0] (fun U => U.heap.size = sz ∧ va_P D vwCl [(h0, .inr (9, [.null, .null, .null]))] U.heap ∧ va_K D vwCl (ab_tys cy) U ∧ va_D (fun _ => True) [(h0, .inr (9, [.null, .null, .null]))])) (va_Qv (fun _ : Unit => True) (fun _ t => ∃ (q0 q1 q2 : Nat), va_P D vwCl [(h0, .inr (9, [.ref q0, .ref q1, .ref q2])), (q0, .inl (cy 1, 30, .inl (fun _ => 0))), (q1, .inl (cy 1, 30, .inl (fun _ => 0))), (q2, .inl (cy 0, 4, .inl (fun _ => 0)))] t.heap ∧ va_K D vwCl (ab_tys cy) t ∧ va_D (va_A [(h0, .inr (9, [.null, .null, .null]))] sz) [(h0, .inr (9, [.ref q0, .ref q1, .ref q2])), (q0, .inl (cy 1, 30, .inl (fun _ => 0))), (q1, .inl (cy 1, 30, .inl (fun _ => 0))), (q2, .inl (cy 0, 4, .inl (fun _ => 0)))]) (va_A [(h0, .inr (9, [.null, .null, .null]))] sz)) 3 64 (va_A [(h0, .inr (9, [.null, .null, .null]))] sz) := by
  refine Met.ofW (cc := cX9_init) (maxL := 1) (ret := none) (by decide +kernel) rfl ?_
  intro p e s m args below meth c s₁ B hml hv
  obtain ⟨rfl, hsz, hP, hK, hD0⟩ := hv
  subst hsz
  have hD := hD0.self (sz := s.heap.size)
  generalize hAe : va_A [(h0, .inr (9, [.null, .null, .null]))] s.heap.size = A at hD ⊢
  have hA : ∀ q : Nat, s.heap.size ≤ q → A q := fun q h => by rw [← hAe]; exact Or.inr h
  have hx := B.exec
  have hb : c.code = cX9_init := B.bytes
  have hr := B.returns
  have hlocks := B.notSynchronized
  have hini : meth.name = "<init>" := (name_of_methodNamed B.named B.method).1
  have hts := atoms_spec (ws := (Cond.code yX9_init cX9_init 1 none :: uw)) B.pre
  have hin : ∀ w ∈ uw, w.before ([Value.ref h0] : List Value).toArray s = true := fun w hw => hts w (List.mem_cons_of_mem _ hw)
  have hinX : ∀ w ∈ u_ws RX9 TX9 3, w ∈ (Cond.code yX9_init cX9_init 1 none :: uw) := fun w hw => List.mem_cons_of_mem _ (in_X9 w hw)
  have hown : s.vm.findClass RX9 = some m.cls := findClass_of_methodNamed B.named
  have hS : va_S A s.heap s.heap [] := va_S.rf
  have hl := lv_entry ([.ref h0]) (n := 1) (Nat.le_of_ble_eq_true rfl)
  rw [lg_entry_eq]
  generalize (lg_sl ([.ref h0]) ++ List.replicate (1 - (lg_sl ([.ref h0])).length) Slot.unset).toArray = ls at hl ⊢
  have hl : lv_has ls 1 [(0, .ref h0)] := hl
  obtain ⟨H, hH⟩ : ∃ H, H = s.heap := ⟨_, rfl⟩
  rw [← hH] at hP
  have hS : va_S A s.heap H [] := by rw [hH]; exact hS
  show W p l e _ s m _ below meth c s.heap [] 0 0 _ _
  rw [← hH]
  refine lv_aload_n (k := 0) hx hb (by decide +kernel) rfl (lv_at hl 0 rfl) ?_
  refine W.objInit hx hb hown (hin _ uw_259) (hin _ uw_75) (hin _ uw_76) rfl (by rw [hml]; exact hl.1) rfl (show decode cX9_init 1 = _ from by decide +kernel) (Nat.le_of_ble_eq_true rfl) (Nat.le_of_ble_eq_true rfl) ?_
  refine W.eq (g2 := F0 m 4 ls []) rfl ?_
  refine lv_aload_n (k := 0) hx hb (by decide +kernel) rfl (lv_at hl 0 rfl) ?_
  refine lv_bipush (n := 30) (v := 30) hx hb (by decide +kernel) (by decide) ?_
  refine va_newa (atype := .boolean) (ty := .boolean) (N' := 30) (a0 := (30, .inl (fun _ => 0))) hx hb (hin _ uw_116) rfl hK hP hD hS hA (fun _ => rfl) (by decide) (by decide) (by decide) (Nat.le_of_ble_eq_true rfl) (Nat.le_of_ble_eq_true rfl) (by decide +kernel) (fun q0 cA H hK1 hP hD hS => ?_)
  have ec : cA = cy 1 := ab_cls (i := 3) (j := 1) (by intro C h; cases h) hK1 rfl rfl
  subst ec
  have hP : va_P D vwCl [(h0, .inr (9, [.null, .null, .null])), (q0, .inl (cy 1, 30, .inl (fun _ => 0)))] H := hP
  have hD : va_D A [(h0, .inr (9, [.null, .null, .null])), (q0, .inl (cy 1, 30, .inl (fun _ => 0)))] := hD
  refine va_putF (D := D) (v := .ref q0) (ty := .array .boolean) (C := RX9) (T := TX9) (N := 3) (ref := "GrainDole$Tokens") hx hb hts hinX tyX9 tyX9_ok nmX9 hown hK hP hD hS 0 rfl rfl 0 (by decide) (hin _ uw_260) (fun _ h9 => h9) rfl hini rfl (by decide +kernel) rfl rfl (Nat.le_of_ble_eq_true rfl) (by decide +kernel) (fun H locs hP hD hS => ?_)
  have hP : va_P D vwCl [(h0, .inr (9, [.ref q0, .null, .null])), (q0, .inl (cy 1, 30, .inl (fun _ => 0)))] H := hP
  have hD : va_D A [(h0, .inr (9, [.ref q0, .null, .null])), (q0, .inl (cy 1, 30, .inl (fun _ => 0)))] := hD
  refine lv_aload_n (k := 0) hx hb (by decide +kernel) rfl (lv_at hl 0 rfl) ?_
  refine lv_bipush (n := 30) (v := 30) hx hb (by decide +kernel) (by decide) ?_
  refine va_newa (atype := .boolean) (ty := .boolean) (N' := 30) (a0 := (30, .inl (fun _ => 0))) hx hb (hin _ uw_116) rfl hK hP hD hS hA (fun _ => rfl) (by decide) (by decide) (by decide) (Nat.le_of_ble_eq_true rfl) (Nat.le_of_ble_eq_true rfl) (by decide +kernel) (fun q1 cA H hK1 hP hD hS => ?_)
  have ec : cA = cy 1 := ab_cls (i := 3) (j := 1) (by intro C h; cases h) hK1 rfl rfl
  subst ec
  have hP : va_P D vwCl [(h0, .inr (9, [.ref q0, .null, .null])), (q0, .inl (cy 1, 30, .inl (fun _ => 0))), (q1, .inl (cy 1, 30, .inl (fun _ => 0)))] H := hP
  have hD : va_D A [(h0, .inr (9, [.ref q0, .null, .null])), (q0, .inl (cy 1, 30, .inl (fun _ => 0))), (q1, .inl (cy 1, 30, .inl (fun _ => 0)))] := hD
  refine va_putF (D := D) (v := .ref q1) (ty := .array .boolean) (C := RX9) (T := TX9) (N := 3) (ref := "GrainDole$Tokens") hx hb hts hinX tyX9 tyX9_ok nmX9 hown hK hP hD hS 0 rfl rfl 1 (by decide) (hin _ uw_261) (fun _ h9 => h9) rfl hini rfl (by decide +kernel) rfl rfl (Nat.le_of_ble_eq_true rfl) (by decide +kernel) (fun H locs hP hD hS => ?_)
  have hP : va_P D vwCl [(h0, .inr (9, [.ref q0, .ref q1, .null])), (q0, .inl (cy 1, 30, .inl (fun _ => 0))), (q1, .inl (cy 1, 30, .inl (fun _ => 0)))] H := hP
  have hD : va_D A [(h0, .inr (9, [.ref q0, .ref q1, .null])), (q0, .inl (cy 1, 30, .inl (fun _ => 0))), (q1, .inl (cy 1, 30, .inl (fun _ => 0)))] := hD
  refine lv_aload_n (k := 0) hx hb (by decide +kernel) rfl (lv_at hl 0 rfl) ?_
  refine lv_iconst (n := 4) (v := 4) hx hb (by decide +kernel) (by decide) ?_
  refine va_newa (atype := .int) (ty := .int) (N' := 4) (a0 := (4, .inl (fun _ => 0))) hx hb (hin _ uw_90) rfl hK hP hD hS hA (fun _ => rfl) (by decide) (by decide) (by decide) (Nat.le_of_ble_eq_true rfl) (Nat.le_of_ble_eq_true rfl) (by decide +kernel) (fun q2 cA H hK1 hP hD hS => ?_)
  have ec : cA = cy 0 := ab_cls (i := 3) (j := 0) (by intro C h; cases h) hK1 rfl rfl
  subst ec
  have hP : va_P D vwCl [(h0, .inr (9, [.ref q0, .ref q1, .null])), (q0, .inl (cy 1, 30, .inl (fun _ => 0))), (q1, .inl (cy 1, 30, .inl (fun _ => 0))), (q2, .inl (cy 0, 4, .inl (fun _ => 0)))] H := hP
  have hD : va_D A [(h0, .inr (9, [.ref q0, .ref q1, .null])), (q0, .inl (cy 1, 30, .inl (fun _ => 0))), (q1, .inl (cy 1, 30, .inl (fun _ => 0))), (q2, .inl (cy 0, 4, .inl (fun _ => 0)))] := hD
  refine va_putF (D := D) (v := .ref q2) (ty := .array .int) (C := RX9) (T := TX9) (N := 3) (ref := "GrainDole$Tokens") hx hb hts hinX tyX9 tyX9_ok nmX9 hown hK hP hD hS 0 rfl rfl 2 (by decide) (hin _ uw_262) (fun _ h9 => h9) rfl hini rfl (by decide +kernel) rfl rfl (Nat.le_of_ble_eq_true rfl) (by decide +kernel) (fun H locs hP hD hS => ?_)
  have hP : va_P D vwCl [(h0, .inr (9, [.ref q0, .ref q1, .ref q2])), (q0, .inl (cy 1, 30, .inl (fun _ => 0))), (q1, .inl (cy 1, 30, .inl (fun _ => 0))), (q2, .inl (cy 0, 4, .inl (fun _ => 0)))] H := hP
  have hD : va_D A [(h0, .inr (9, [.ref q0, .ref q1, .ref q2])), (q0, .inl (cy 1, 30, .inl (fun _ => 0))), (q1, .inl (cy 1, 30, .inl (fun _ => 0))), (q2, .inl (cy 0, 4, .inl (fun _ => 0)))] := hD
  refine W.widen (k := 3) (n := 64) (Nat.le_of_ble_eq_true rfl) (Nat.le_of_ble_eq_true rfl) ?_
  exact W.vret hx hb hr (fun t ht hW => ⟨⟨(), rfl, trivial, q0, q1, q2, by rw [ht]; exact hP, va_K.moved hW.alike hK, hD⟩, hS.F ht⟩) hS.2.2 (by decide +kernel)
set_option maxRecDepth 20000 in
set_option maxHeartbeats 4000000 in
theorem ct_X3 (l : Launch) (D : va_G) (cy : Nat → ClassId) (h0 sz : Nat) : Met l yX3_init (.code yX3_init cX3_init 1 none :: uw) { frames := 1, cells := 6, slots := 968, locals := 12 } (va_Pc [.ref h0] (fun U => U.heap.size = sz ∧ va_P D vwCl [(h0, .inr (3, [.null, .null, .null, .null, .null, .null, .int 0]))] U.heap ∧ va_K D vwCl (ab_tys cy) U ∧ va_D (fun _ => True) [(h0, .inr (3, [.null, .null, .null, .null, .null, .null, .int 0]))])) (va_Qv (fun _ : Unit => True) (fun _ t => ∃ (q0 q1 q2 q3 q4 q5 : Nat), va_P D vwCl [(h0, .inr (3, [.ref q0, .ref q1, .ref q2, .ref q3, .ref q4, .ref q5, .int 0])), (q0, .inl (cy 0, 720, .inl (fun _ => 0))), (q1, .inl (cy 0, 120, .inl (fun _ => 0))), (q2, .inl (cy 0, 32, .inl (fun _ => 0))), (q3, .inl (cy 0, 32, .inl (fun _ => 0))), (q4, .inl (cy 0, 32, .inl (fun _ => 0))), (q5, .inl (cy 0, 32, .inl (fun _ => 0)))] t.heap ∧ va_K D vwCl (ab_tys cy) t ∧ va_D (va_A [(h0, .inr (3, [.null, .null, .null, .null, .null, .null, .int 0]))] sz) [(h0, .inr (3, [.ref q0, .ref q1, .ref q2, .ref q3, .ref q4, .ref q5, .int 0])), (q0, .inl (cy 0, 720, .inl (fun _ => 0))), (q1, .inl (cy 0, 120, .inl (fun _ => 0))), (q2, .inl (cy 0, 32, .inl (fun _ => 0))), (q3, .inl (cy 0, 32, .inl (fun _ => 0))), (q4, .inl (cy 0, 32, .inl (fun _ => 0))), (q5, .inl (cy 0, 32, .inl (fun _ => 0)))]) (va_A [(h0, .inr (3, [.null, .null, .null, .null, .null, .null, .int 0]))] sz)) 6 968 (va_A [(h0, .inr (3, [.null, .null, .null, .null, .null, .null, .int 0]))] sz) := by
  refine Met.ofW (cc := cX3_init) (maxL := 1) (ret := none) (by decide +kernel) rfl ?_
  intro p e s m args below meth c s₁ B hml hv
  obtain ⟨rfl, hsz, hP, hK, hD0⟩ := hv
  subst hsz
  have hD := hD0.self (sz := s.heap.size)
  generalize hAe : va_A [(h0, .inr (3, [.null, .null, .null, .null, .null, .null, .int 0]))] s.heap.size = A at hD ⊢
  have hA : ∀ q : Nat, s.heap.size ≤ q → A q := fun q h => by rw [← hAe]; exact Or.inr h
  have hx := B.exec
  have hb : c.code = cX3_init := B.bytes
  have hr := B.returns
  have hlocks := B.notSynchronized
  have hini : meth.name = "<init>" := (name_of_methodNamed B.named B.method).1
  have hts := atoms_spec (ws := (Cond.code yX3_init cX3_init 1 none :: uw)) B.pre
  have hin : ∀ w ∈ uw, w.before ([Value.ref h0] : List Value).toArray s = true := fun w hw => hts w (List.mem_cons_of_mem _ hw)
  have hinX : ∀ w ∈ u_ws RX3 TX3 7, w ∈ (Cond.code yX3_init cX3_init 1 none :: uw) := fun w hw => List.mem_cons_of_mem _ (in_X3 w hw)
  have hown : s.vm.findClass RX3 = some m.cls := findClass_of_methodNamed B.named
  have hS : va_S A s.heap s.heap [] := va_S.rf
  have hl := lv_entry ([.ref h0]) (n := 1) (Nat.le_of_ble_eq_true rfl)
  rw [lg_entry_eq]
  generalize (lg_sl ([.ref h0]) ++ List.replicate (1 - (lg_sl ([.ref h0])).length) Slot.unset).toArray = ls at hl ⊢
  have hl : lv_has ls 1 [(0, .ref h0)] := hl
  obtain ⟨H, hH⟩ : ∃ H, H = s.heap := ⟨_, rfl⟩
  rw [← hH] at hP
  have hS : va_S A s.heap H [] := by rw [hH]; exact hS
  show W p l e _ s m _ below meth c s.heap [] 0 0 _ _
  rw [← hH]
  refine lv_aload_n (k := 0) hx hb (by decide +kernel) rfl (lv_at hl 0 rfl) ?_
  refine W.objInit hx hb hown (hin _ uw_275) (hin _ uw_75) (hin _ uw_76) rfl (by rw [hml]; exact hl.1) rfl (show decode cX3_init 1 = _ from by decide +kernel) (Nat.le_of_ble_eq_true rfl) (Nat.le_of_ble_eq_true rfl) ?_
  refine W.eq (g2 := F0 m 4 ls []) rfl ?_
  refine lv_aload_n (k := 0) hx hb (by decide +kernel) rfl (lv_at hl 0 rfl) ?_
  refine lv_sipush (n := 720) (v := 720) hx hb (by decide +kernel) (by decide) ?_
  refine va_newa (atype := .int) (ty := .int) (N' := 720) (a0 := (720, .inl (fun _ => 0))) hx hb (hin _ uw_90) rfl hK hP hD hS hA (fun _ => rfl) (by decide) (by decide) (by decide) (Nat.le_of_ble_eq_true rfl) (Nat.le_of_ble_eq_true rfl) (by decide +kernel) (fun q0 cA H hK1 hP hD hS => ?_)
  have ec : cA = cy 0 := ab_cls (i := 3) (j := 0) (by intro C h; cases h) hK1 rfl rfl
  subst ec
  have hP : va_P D vwCl [(h0, .inr (3, [.null, .null, .null, .null, .null, .null, .int 0])), (q0, .inl (cy 0, 720, .inl (fun _ => 0)))] H := hP
  have hD : va_D A [(h0, .inr (3, [.null, .null, .null, .null, .null, .null, .int 0])), (q0, .inl (cy 0, 720, .inl (fun _ => 0)))] := hD
  refine va_putF (D := D) (v := .ref q0) (ty := .array .int) (C := RX3) (T := TX3) (N := 7) (ref := "GrainDole$Ledger") hx hb hts hinX tyX3 tyX3_ok nmX3 hown hK hP hD hS 0 rfl rfl 0 (by decide) (hin _ uw_276) (fun _ h9 => h9) rfl hini rfl (by decide +kernel) rfl rfl (Nat.le_of_ble_eq_true rfl) (by decide +kernel) (fun H locs hP hD hS => ?_)
  have hP : va_P D vwCl [(h0, .inr (3, [.ref q0, .null, .null, .null, .null, .null, .int 0])), (q0, .inl (cy 0, 720, .inl (fun _ => 0)))] H := hP
  have hD : va_D A [(h0, .inr (3, [.ref q0, .null, .null, .null, .null, .null, .int 0])), (q0, .inl (cy 0, 720, .inl (fun _ => 0)))] := hD
  refine lv_aload_n (k := 0) hx hb (by decide +kernel) rfl (lv_at hl 0 rfl) ?_
  refine lv_bipush (n := 120) (v := 120) hx hb (by decide +kernel) (by decide) ?_
  refine va_newa (atype := .int) (ty := .int) (N' := 120) (a0 := (120, .inl (fun _ => 0))) hx hb (hin _ uw_90) rfl hK hP hD hS hA (fun _ => rfl) (by decide) (by decide) (by decide) (Nat.le_of_ble_eq_true rfl) (Nat.le_of_ble_eq_true rfl) (by decide +kernel) (fun q1 cA H hK1 hP hD hS => ?_)
  have ec : cA = cy 0 := ab_cls (i := 3) (j := 0) (by intro C h; cases h) hK1 rfl rfl
  subst ec
  have hP : va_P D vwCl [(h0, .inr (3, [.ref q0, .null, .null, .null, .null, .null, .int 0])), (q0, .inl (cy 0, 720, .inl (fun _ => 0))), (q1, .inl (cy 0, 120, .inl (fun _ => 0)))] H := hP
  have hD : va_D A [(h0, .inr (3, [.ref q0, .null, .null, .null, .null, .null, .int 0])), (q0, .inl (cy 0, 720, .inl (fun _ => 0))), (q1, .inl (cy 0, 120, .inl (fun _ => 0)))] := hD
  refine va_putF (D := D) (v := .ref q1) (ty := .array .int) (C := RX3) (T := TX3) (N := 7) (ref := "GrainDole$Ledger") hx hb hts hinX tyX3 tyX3_ok nmX3 hown hK hP hD hS 0 rfl rfl 1 (by decide) (hin _ uw_277) (fun _ h9 => h9) rfl hini rfl (by decide +kernel) rfl rfl (Nat.le_of_ble_eq_true rfl) (by decide +kernel) (fun H locs hP hD hS => ?_)
  have hP : va_P D vwCl [(h0, .inr (3, [.ref q0, .ref q1, .null, .null, .null, .null, .int 0])), (q0, .inl (cy 0, 720, .inl (fun _ => 0))), (q1, .inl (cy 0, 120, .inl (fun _ => 0)))] H := hP
  have hD : va_D A [(h0, .inr (3, [.ref q0, .ref q1, .null, .null, .null, .null, .int 0])), (q0, .inl (cy 0, 720, .inl (fun _ => 0))), (q1, .inl (cy 0, 120, .inl (fun _ => 0)))] := hD
  refine lv_aload_n (k := 0) hx hb (by decide +kernel) rfl (lv_at hl 0 rfl) ?_
  refine lv_bipush (n := 32) (v := 32) hx hb (by decide +kernel) (by decide) ?_
  refine va_newa (atype := .int) (ty := .int) (N' := 32) (a0 := (32, .inl (fun _ => 0))) hx hb (hin _ uw_90) rfl hK hP hD hS hA (fun _ => rfl) (by decide) (by decide) (by decide) (Nat.le_of_ble_eq_true rfl) (Nat.le_of_ble_eq_true rfl) (by decide +kernel) (fun q2 cA H hK1 hP hD hS => ?_)
  have ec : cA = cy 0 := ab_cls (i := 3) (j := 0) (by intro C h; cases h) hK1 rfl rfl
  subst ec
  have hP : va_P D vwCl [(h0, .inr (3, [.ref q0, .ref q1, .null, .null, .null, .null, .int 0])), (q0, .inl (cy 0, 720, .inl (fun _ => 0))), (q1, .inl (cy 0, 120, .inl (fun _ => 0))), (q2, .inl (cy 0, 32, .inl (fun _ => 0)))] H := hP
  have hD : va_D A [(h0, .inr (3, [.ref q0, .ref q1, .null, .null, .null, .null, .int 0])), (q0, .inl (cy 0, 720, .inl (fun _ => 0))), (q1, .inl (cy 0, 120, .inl (fun _ => 0))), (q2, .inl (cy 0, 32, .inl (fun _ => 0)))] := hD
  refine va_put (D := D) (v := .ref q2) (ty := .array .int) (C := RX3) (T := TX3) (N := 7) (ref := "GrainDole$Ledger") hx hb hts hinX tyX3 tyX3_ok nmX3 hown hK hP hD hS 0 rfl rfl 2 (by decide) (hin _ uw_278) (fun _ h9 => h9) rfl (by decide +kernel) rfl rfl (Nat.le_of_ble_eq_true rfl) (by decide +kernel) (fun H locs hP hD hS => ?_)
  have hP : va_P D vwCl [(h0, .inr (3, [.ref q0, .ref q1, .ref q2, .null, .null, .null, .int 0])), (q0, .inl (cy 0, 720, .inl (fun _ => 0))), (q1, .inl (cy 0, 120, .inl (fun _ => 0))), (q2, .inl (cy 0, 32, .inl (fun _ => 0)))] H := hP
  have hD : va_D A [(h0, .inr (3, [.ref q0, .ref q1, .ref q2, .null, .null, .null, .int 0])), (q0, .inl (cy 0, 720, .inl (fun _ => 0))), (q1, .inl (cy 0, 120, .inl (fun _ => 0))), (q2, .inl (cy 0, 32, .inl (fun _ => 0)))] := hD
  refine lv_aload_n (k := 0) hx hb (by decide +kernel) rfl (lv_at hl 0 rfl) ?_
  refine lv_bipush (n := 32) (v := 32) hx hb (by decide +kernel) (by decide) ?_
  refine va_newa (atype := .int) (ty := .int) (N' := 32) (a0 := (32, .inl (fun _ => 0))) hx hb (hin _ uw_90) rfl hK hP hD hS hA (fun _ => rfl) (by decide) (by decide) (by decide) (Nat.le_of_ble_eq_true rfl) (Nat.le_of_ble_eq_true rfl) (by decide +kernel) (fun q3 cA H hK1 hP hD hS => ?_)
  have ec : cA = cy 0 := ab_cls (i := 3) (j := 0) (by intro C h; cases h) hK1 rfl rfl
  subst ec
  have hP : va_P D vwCl [(h0, .inr (3, [.ref q0, .ref q1, .ref q2, .null, .null, .null, .int 0])), (q0, .inl (cy 0, 720, .inl (fun _ => 0))), (q1, .inl (cy 0, 120, .inl (fun _ => 0))), (q2, .inl (cy 0, 32, .inl (fun _ => 0))), (q3, .inl (cy 0, 32, .inl (fun _ => 0)))] H := hP
  have hD : va_D A [(h0, .inr (3, [.ref q0, .ref q1, .ref q2, .null, .null, .null, .int 0])), (q0, .inl (cy 0, 720, .inl (fun _ => 0))), (q1, .inl (cy 0, 120, .inl (fun _ => 0))), (q2, .inl (cy 0, 32, .inl (fun _ => 0))), (q3, .inl (cy 0, 32, .inl (fun _ => 0)))] := hD
  refine va_put (D := D) (v := .ref q3) (ty := .array .int) (C := RX3) (T := TX3) (N := 7) (ref := "GrainDole$Ledger") hx hb hts hinX tyX3 tyX3_ok nmX3 hown hK hP hD hS 0 rfl rfl 3 (by decide) (hin _ uw_279) (fun _ h9 => h9) rfl (by decide +kernel) rfl rfl (Nat.le_of_ble_eq_true rfl) (by decide +kernel) (fun H locs hP hD hS => ?_)
  have hP : va_P D vwCl [(h0, .inr (3, [.ref q0, .ref q1, .ref q2, .ref q3, .null, .null, .int 0])), (q0, .inl (cy 0, 720, .inl (fun _ => 0))), (q1, .inl (cy 0, 120, .inl (fun _ => 0))), (q2, .inl (cy 0, 32, .inl (fun _ => 0))), (q3, .inl (cy 0, 32, .inl (fun _ => 0)))] H := hP
  have hD : va_D A [(h0, .inr (3, [.ref q0, .ref q1, .ref q2, .ref q3, .null, .null, .int 0])), (q0, .inl (cy 0, 720, .inl (fun _ => 0))), (q1, .inl (cy 0, 120, .inl (fun _ => 0))), (q2, .inl (cy 0, 32, .inl (fun _ => 0))), (q3, .inl (cy 0, 32, .inl (fun _ => 0)))] := hD
  refine lv_aload_n (k := 0) hx hb (by decide +kernel) rfl (lv_at hl 0 rfl) ?_
  refine lv_bipush (n := 32) (v := 32) hx hb (by decide +kernel) (by decide) ?_
  refine va_newa (atype := .int) (ty := .int) (N' := 32) (a0 := (32, .inl (fun _ => 0))) hx hb (hin _ uw_90) rfl hK hP hD hS hA (fun _ => rfl) (by decide) (by decide) (by decide) (Nat.le_of_ble_eq_true rfl) (Nat.le_of_ble_eq_true rfl) (by decide +kernel) (fun q4 cA H hK1 hP hD hS => ?_)
  have ec : cA = cy 0 := ab_cls (i := 3) (j := 0) (by intro C h; cases h) hK1 rfl rfl
  subst ec
  have hP : va_P D vwCl [(h0, .inr (3, [.ref q0, .ref q1, .ref q2, .ref q3, .null, .null, .int 0])), (q0, .inl (cy 0, 720, .inl (fun _ => 0))), (q1, .inl (cy 0, 120, .inl (fun _ => 0))), (q2, .inl (cy 0, 32, .inl (fun _ => 0))), (q3, .inl (cy 0, 32, .inl (fun _ => 0))), (q4, .inl (cy 0, 32, .inl (fun _ => 0)))] H := hP
  have hD : va_D A [(h0, .inr (3, [.ref q0, .ref q1, .ref q2, .ref q3, .null, .null, .int 0])), (q0, .inl (cy 0, 720, .inl (fun _ => 0))), (q1, .inl (cy 0, 120, .inl (fun _ => 0))), (q2, .inl (cy 0, 32, .inl (fun _ => 0))), (q3, .inl (cy 0, 32, .inl (fun _ => 0))), (q4, .inl (cy 0, 32, .inl (fun _ => 0)))] := hD
  refine va_put (D := D) (v := .ref q4) (ty := .array .int) (C := RX3) (T := TX3) (N := 7) (ref := "GrainDole$Ledger") hx hb hts hinX tyX3 tyX3_ok nmX3 hown hK hP hD hS 0 rfl rfl 4 (by decide) (hin _ uw_280) (fun _ h9 => h9) rfl (by decide +kernel) rfl rfl (Nat.le_of_ble_eq_true rfl) (by decide +kernel) (fun H locs hP hD hS => ?_)
  have hP : va_P D vwCl [(h0, .inr (3, [.ref q0, .ref q1, .ref q2, .ref q3, .ref q4, .null, .int 0])), (q0, .inl (cy 0, 720, .inl (fun _ => 0))), (q1, .inl (cy 0, 120, .inl (fun _ => 0))), (q2, .inl (cy 0, 32, .inl (fun _ => 0))), (q3, .inl (cy 0, 32, .inl (fun _ => 0))), (q4, .inl (cy 0, 32, .inl (fun _ => 0)))] H := hP
  have hD : va_D A [(h0, .inr (3, [.ref q0, .ref q1, .ref q2, .ref q3, .ref q4, .null, .int 0])), (q0, .inl (cy 0, 720, .inl (fun _ => 0))), (q1, .inl (cy 0, 120, .inl (fun _ => 0))), (q2, .inl (cy 0, 32, .inl (fun _ => 0))), (q3, .inl (cy 0, 32, .inl (fun _ => 0))), (q4, .inl (cy 0, 32, .inl (fun _ => 0)))] := hD
  refine lv_aload_n (k := 0) hx hb (by decide +kernel) rfl (lv_at hl 0 rfl) ?_
  refine lv_bipush (n := 32) (v := 32) hx hb (by decide +kernel) (by decide) ?_
  refine va_newa (atype := .int) (ty := .int) (N' := 32) (a0 := (32, .inl (fun _ => 0))) hx hb (hin _ uw_90) rfl hK hP hD hS hA (fun _ => rfl) (by decide) (by decide) (by decide) (Nat.le_of_ble_eq_true rfl) (Nat.le_of_ble_eq_true rfl) (by decide +kernel) (fun q5 cA H hK1 hP hD hS => ?_)
  have ec : cA = cy 0 := ab_cls (i := 3) (j := 0) (by intro C h; cases h) hK1 rfl rfl
  subst ec
  have hP : va_P D vwCl [(h0, .inr (3, [.ref q0, .ref q1, .ref q2, .ref q3, .ref q4, .null, .int 0])), (q0, .inl (cy 0, 720, .inl (fun _ => 0))), (q1, .inl (cy 0, 120, .inl (fun _ => 0))), (q2, .inl (cy 0, 32, .inl (fun _ => 0))), (q3, .inl (cy 0, 32, .inl (fun _ => 0))), (q4, .inl (cy 0, 32, .inl (fun _ => 0))), (q5, .inl (cy 0, 32, .inl (fun _ => 0)))] H := hP
  have hD : va_D A [(h0, .inr (3, [.ref q0, .ref q1, .ref q2, .ref q3, .ref q4, .null, .int 0])), (q0, .inl (cy 0, 720, .inl (fun _ => 0))), (q1, .inl (cy 0, 120, .inl (fun _ => 0))), (q2, .inl (cy 0, 32, .inl (fun _ => 0))), (q3, .inl (cy 0, 32, .inl (fun _ => 0))), (q4, .inl (cy 0, 32, .inl (fun _ => 0))), (q5, .inl (cy 0, 32, .inl (fun _ => 0)))] := hD
  refine va_put (D := D) (v := .ref q5) (ty := .array .int) (C := RX3) (T := TX3) (N := 7) (ref := "GrainDole$Ledger") hx hb hts hinX tyX3 tyX3_ok nmX3 hown hK hP hD hS 0 rfl rfl 5 (by decide) (hin _ uw_281) (fun _ h9 => h9) rfl (by decide +kernel) rfl rfl (Nat.le_of_ble_eq_true rfl) (by decide +kernel) (fun H locs hP hD hS => ?_)
  have hP : va_P D vwCl [(h0, .inr (3, [.ref q0, .ref q1, .ref q2, .ref q3, .ref q4, .ref q5, .int 0])), (q0, .inl (cy 0, 720, .inl (fun _ => 0))), (q1, .inl (cy 0, 120, .inl (fun _ => 0))), (q2, .inl (cy 0, 32, .inl (fun _ => 0))), (q3, .inl (cy 0, 32, .inl (fun _ => 0))), (q4, .inl (cy 0, 32, .inl (fun _ => 0))), (q5, .inl (cy 0, 32, .inl (fun _ => 0)))] H := hP
  have hD : va_D A [(h0, .inr (3, [.ref q0, .ref q1, .ref q2, .ref q3, .ref q4, .ref q5, .int 0])), (q0, .inl (cy 0, 720, .inl (fun _ => 0))), (q1, .inl (cy 0, 120, .inl (fun _ => 0))), (q2, .inl (cy 0, 32, .inl (fun _ => 0))), (q3, .inl (cy 0, 32, .inl (fun _ => 0))), (q4, .inl (cy 0, 32, .inl (fun _ => 0))), (q5, .inl (cy 0, 32, .inl (fun _ => 0)))] := hD
  refine lv_aload_n (k := 0) hx hb (by decide +kernel) rfl (lv_at hl 0 rfl) ?_
  refine lv_iconst (n := 0) (v := 0) hx hb (by decide +kernel) (by decide) ?_
  refine va_put (D := D) (v := .int 0) (ty := .int) (C := RX3) (T := TX3) (N := 7) (ref := "GrainDole$Ledger") hx hb hts hinX tyX3 tyX3_ok nmX3 hown hK hP hD hS 0 rfl rfl 6 (by decide) (hin _ uw_282) (fun _ h9 => h9) rfl (by decide +kernel) rfl rfl (Nat.le_of_ble_eq_true rfl) (by decide +kernel) (fun H locs hP hD hS => ?_)
  have hP : va_P D vwCl [(h0, .inr (3, [.ref q0, .ref q1, .ref q2, .ref q3, .ref q4, .ref q5, .int 0])), (q0, .inl (cy 0, 720, .inl (fun _ => 0))), (q1, .inl (cy 0, 120, .inl (fun _ => 0))), (q2, .inl (cy 0, 32, .inl (fun _ => 0))), (q3, .inl (cy 0, 32, .inl (fun _ => 0))), (q4, .inl (cy 0, 32, .inl (fun _ => 0))), (q5, .inl (cy 0, 32, .inl (fun _ => 0)))] H := hP
  have hD : va_D A [(h0, .inr (3, [.ref q0, .ref q1, .ref q2, .ref q3, .ref q4, .ref q5, .int 0])), (q0, .inl (cy 0, 720, .inl (fun _ => 0))), (q1, .inl (cy 0, 120, .inl (fun _ => 0))), (q2, .inl (cy 0, 32, .inl (fun _ => 0))), (q3, .inl (cy 0, 32, .inl (fun _ => 0))), (q4, .inl (cy 0, 32, .inl (fun _ => 0))), (q5, .inl (cy 0, 32, .inl (fun _ => 0)))] := hD
  refine W.widen (k := 6) (n := 968) (Nat.le_of_ble_eq_true rfl) (Nat.le_of_ble_eq_true rfl) ?_
  exact W.vret hx hb hr (fun t ht hW => ⟨⟨(), rfl, trivial, q0, q1, q2, q3, q4, q5, by rw [ht]; exact hP, va_K.moved hW.alike hK, hD⟩, hS.F ht⟩) hS.2.2 (by decide +kernel)
set_option maxRecDepth 20000 in
set_option maxHeartbeats 4000000 in
theorem ct_X4 (l : Launch) (D : va_G) (cy : Nat → ClassId) (h0 sz r0 r1 r2 r3 : Nat) : Met l yX4_init (.code yX4_init cX4_init 5 none :: uw) { frames := 1, cells := 1, slots := 30, locals := 12 } (va_Pc [.ref h0, .ref r0, .ref r1, .ref r2, .ref r3] (fun U => U.heap.size = sz ∧ va_P D vwCl [(h0, .inr (4, [.null, .null, .null, .null, .null, .int 0, .int 0]))] U.heap ∧ va_K D vwCl (ab_tys cy) U ∧ va_D (fun _ => True) [(h0, .inr (4, [.null, .null, .null, .null, .null, .int 0, .int 0]))])) (va_Qv (fun _ : Unit => True) (fun _ t => ∃ (q0 : Nat), va_P D vwCl [(h0, .inr (4, [.ref r0, .ref r1, .ref r2, .ref r3, .ref q0, .int 0, .int 0])), (q0, .inl (cy 0, 30, .inl (fun _ => 0)))] t.heap ∧ va_K D vwCl (ab_tys cy) t ∧ va_D (va_A [(h0, .inr (4, [.null, .null, .null, .null, .null, .int 0, .int 0]))] sz) [(h0, .inr (4, [.ref r0, .ref r1, .ref r2, .ref r3, .ref q0, .int 0, .int 0])), (q0, .inl (cy 0, 30, .inl (fun _ => 0)))]) (va_A [(h0, .inr (4, [.null, .null, .null, .null, .null, .int 0, .int 0]))] sz)) 1 30 (va_A [(h0, .inr (4, [.null, .null, .null, .null, .null, .int 0, .int 0]))] sz) := by
  refine Met.ofW (cc := cX4_init) (maxL := 5) (ret := none) (by decide +kernel) rfl ?_
  intro p e s m args below meth c s₁ B hml hv
  obtain ⟨rfl, hsz, hP, hK, hD0⟩ := hv
  subst hsz
  have hD := hD0.self (sz := s.heap.size)
  generalize hAe : va_A [(h0, .inr (4, [.null, .null, .null, .null, .null, .int 0, .int 0]))] s.heap.size = A at hD ⊢
  have hA : ∀ q : Nat, s.heap.size ≤ q → A q := fun q h => by rw [← hAe]; exact Or.inr h
  have hx := B.exec
  have hb : c.code = cX4_init := B.bytes
  have hr := B.returns
  have hlocks := B.notSynchronized
  have hini : meth.name = "<init>" := (name_of_methodNamed B.named B.method).1
  have hts := atoms_spec (ws := (Cond.code yX4_init cX4_init 5 none :: uw)) B.pre
  have hin : ∀ w ∈ uw, w.before ([Value.ref h0, Value.ref r0, Value.ref r1, Value.ref r2, Value.ref r3] : List Value).toArray s = true := fun w hw => hts w (List.mem_cons_of_mem _ hw)
  have hinX : ∀ w ∈ u_ws RX4 TX4 7, w ∈ (Cond.code yX4_init cX4_init 5 none :: uw) := fun w hw => List.mem_cons_of_mem _ (in_X4 w hw)
  have hown : s.vm.findClass RX4 = some m.cls := findClass_of_methodNamed B.named
  have hS : va_S A s.heap s.heap [] := va_S.rf
  have hl := lv_entry ([.ref h0, .ref r0, .ref r1, .ref r2, .ref r3]) (n := 5) (Nat.le_of_ble_eq_true rfl)
  rw [lg_entry_eq]
  generalize (lg_sl ([.ref h0, .ref r0, .ref r1, .ref r2, .ref r3]) ++ List.replicate (5 - (lg_sl ([.ref h0, .ref r0, .ref r1, .ref r2, .ref r3])).length) Slot.unset).toArray = ls at hl ⊢
  have hl : lv_has ls 5 [(0, .ref h0), (1, .ref r0), (2, .ref r1), (3, .ref r2), (4, .ref r3)] := hl
  obtain ⟨H, hH⟩ : ∃ H, H = s.heap := ⟨_, rfl⟩
  rw [← hH] at hP
  have hS : va_S A s.heap H [] := by rw [hH]; exact hS
  show W p l e _ s m _ below meth c s.heap [] 0 0 _ _
  rw [← hH]
  refine lv_aload_n (k := 0) hx hb (by decide +kernel) rfl (lv_at hl 0 rfl) ?_
  refine W.objInit hx hb hown (hin _ uw_303) (hin _ uw_75) (hin _ uw_76) rfl (by rw [hml]; exact hl.1) rfl (show decode cX4_init 1 = _ from by decide +kernel) (Nat.le_of_ble_eq_true rfl) (Nat.le_of_ble_eq_true rfl) ?_
  refine W.eq (g2 := F0 m 4 ls []) rfl ?_
  refine lv_aload_n (k := 0) hx hb (by decide +kernel) rfl (lv_at hl 0 rfl) ?_
  refine lv_bipush (n := 30) (v := 30) hx hb (by decide +kernel) (by decide) ?_
  refine va_newa (atype := .int) (ty := .int) (N' := 30) (a0 := (30, .inl (fun _ => 0))) hx hb (hin _ uw_90) rfl hK hP hD hS hA (fun _ => rfl) (by decide) (by decide) (by decide) (Nat.le_of_ble_eq_true rfl) (Nat.le_of_ble_eq_true rfl) (by decide +kernel) (fun q0 cA H hK1 hP hD hS => ?_)
  have ec : cA = cy 0 := ab_cls (i := 3) (j := 0) (by intro C h; cases h) hK1 rfl rfl
  subst ec
  have hP : va_P D vwCl [(h0, .inr (4, [.null, .null, .null, .null, .null, .int 0, .int 0])), (q0, .inl (cy 0, 30, .inl (fun _ => 0)))] H := hP
  have hD : va_D A [(h0, .inr (4, [.null, .null, .null, .null, .null, .int 0, .int 0])), (q0, .inl (cy 0, 30, .inl (fun _ => 0)))] := hD
  refine va_putF (D := D) (v := .ref q0) (ty := .array .int) (C := RX4) (T := TX4) (N := 7) (ref := "GrainDole$Parting") hx hb hts hinX tyX4 tyX4_ok nmX4 hown hK hP hD hS 0 rfl rfl 4 (by decide) (hin _ uw_308) (fun _ h9 => h9) rfl hini rfl (by decide +kernel) rfl rfl (Nat.le_of_ble_eq_true rfl) (by decide +kernel) (fun H locs hP hD hS => ?_)
  have hP : va_P D vwCl [(h0, .inr (4, [.null, .null, .null, .null, .ref q0, .int 0, .int 0])), (q0, .inl (cy 0, 30, .inl (fun _ => 0)))] H := hP
  have hD : va_D A [(h0, .inr (4, [.null, .null, .null, .null, .ref q0, .int 0, .int 0])), (q0, .inl (cy 0, 30, .inl (fun _ => 0)))] := hD
  refine lv_aload_n (k := 0) hx hb (by decide +kernel) rfl (lv_at hl 0 rfl) ?_
  refine lv_iconst (n := 0) (v := 0) hx hb (by decide +kernel) (by decide) ?_
  refine va_put (D := D) (v := .int 0) (ty := .int) (C := RX4) (T := TX4) (N := 7) (ref := "GrainDole$Parting") hx hb hts hinX tyX4 tyX4_ok nmX4 hown hK hP hD hS 0 rfl rfl 5 (by decide) (hin _ uw_309) (fun _ h9 => h9) rfl (by decide +kernel) rfl rfl (Nat.le_of_ble_eq_true rfl) (by decide +kernel) (fun H locs hP hD hS => ?_)
  have hP : va_P D vwCl [(h0, .inr (4, [.null, .null, .null, .null, .ref q0, .int 0, .int 0])), (q0, .inl (cy 0, 30, .inl (fun _ => 0)))] H := hP
  have hD : va_D A [(h0, .inr (4, [.null, .null, .null, .null, .ref q0, .int 0, .int 0])), (q0, .inl (cy 0, 30, .inl (fun _ => 0)))] := hD
  refine lv_aload_n (k := 0) hx hb (by decide +kernel) rfl (lv_at hl 0 rfl) ?_
  refine lv_iconst (n := 0) (v := 0) hx hb (by decide +kernel) (by decide) ?_
  refine va_put (D := D) (v := .int 0) (ty := .boolean) (C := RX4) (T := TX4) (N := 7) (ref := "GrainDole$Parting") hx hb hts hinX tyX4 tyX4_ok nmX4 hown hK hP hD hS 0 rfl rfl 6 (by decide) (hin _ uw_310) (fun _ h9 => h9) rfl (by decide +kernel) rfl rfl (Nat.le_of_ble_eq_true rfl) (by decide +kernel) (fun H locs hP hD hS => ?_)
  have hP : va_P D vwCl [(h0, .inr (4, [.null, .null, .null, .null, .ref q0, .int 0, .int 0])), (q0, .inl (cy 0, 30, .inl (fun _ => 0)))] H := hP
  have hD : va_D A [(h0, .inr (4, [.null, .null, .null, .null, .ref q0, .int 0, .int 0])), (q0, .inl (cy 0, 30, .inl (fun _ => 0)))] := hD
  refine lv_aload_n (k := 0) hx hb (by decide +kernel) rfl (lv_at hl 0 rfl) ?_
  refine lv_aload_n (k := 1) hx hb (by decide +kernel) rfl (lv_at hl 1 rfl) ?_
  refine va_putF (D := D) (v := .ref r0) (ty := .object "GrainDole$Standing") (C := RX4) (T := TX4) (N := 7) (ref := "GrainDole$Parting") hx hb hts hinX tyX4 tyX4_ok nmX4 hown hK hP hD hS 0 rfl rfl 0 (by decide) (hin _ uw_304) (fun _ h9 => h9) rfl hini rfl (by decide +kernel) rfl rfl (Nat.le_of_ble_eq_true rfl) (by decide +kernel) (fun H locs hP hD hS => ?_)
  have hP : va_P D vwCl [(h0, .inr (4, [.ref r0, .null, .null, .null, .ref q0, .int 0, .int 0])), (q0, .inl (cy 0, 30, .inl (fun _ => 0)))] H := hP
  have hD : va_D A [(h0, .inr (4, [.ref r0, .null, .null, .null, .ref q0, .int 0, .int 0])), (q0, .inl (cy 0, 30, .inl (fun _ => 0)))] := hD
  refine lv_aload_n (k := 0) hx hb (by decide +kernel) rfl (lv_at hl 0 rfl) ?_
  refine lv_aload_n (k := 2) hx hb (by decide +kernel) rfl (lv_at hl 2 rfl) ?_
  refine va_putF (D := D) (v := .ref r1) (ty := .object "GrainDole$Stores") (C := RX4) (T := TX4) (N := 7) (ref := "GrainDole$Parting") hx hb hts hinX tyX4 tyX4_ok nmX4 hown hK hP hD hS 0 rfl rfl 1 (by decide) (hin _ uw_305) (fun _ h9 => h9) rfl hini rfl (by decide +kernel) rfl rfl (Nat.le_of_ble_eq_true rfl) (by decide +kernel) (fun H locs hP hD hS => ?_)
  have hP : va_P D vwCl [(h0, .inr (4, [.ref r0, .ref r1, .null, .null, .ref q0, .int 0, .int 0])), (q0, .inl (cy 0, 30, .inl (fun _ => 0)))] H := hP
  have hD : va_D A [(h0, .inr (4, [.ref r0, .ref r1, .null, .null, .ref q0, .int 0, .int 0])), (q0, .inl (cy 0, 30, .inl (fun _ => 0)))] := hD
  refine lv_aload_n (k := 0) hx hb (by decide +kernel) rfl (lv_at hl 0 rfl) ?_
  refine lv_aload_n (k := 3) hx hb (by decide +kernel) rfl (lv_at hl 3 rfl) ?_
  refine va_putF (D := D) (v := .ref r2) (ty := .object "GrainDole$Tokens") (C := RX4) (T := TX4) (N := 7) (ref := "GrainDole$Parting") hx hb hts hinX tyX4 tyX4_ok nmX4 hown hK hP hD hS 0 rfl rfl 2 (by decide) (hin _ uw_306) (fun _ h9 => h9) rfl hini rfl (by decide +kernel) rfl rfl (Nat.le_of_ble_eq_true rfl) (by decide +kernel) (fun H locs hP hD hS => ?_)
  have hP : va_P D vwCl [(h0, .inr (4, [.ref r0, .ref r1, .ref r2, .null, .ref q0, .int 0, .int 0])), (q0, .inl (cy 0, 30, .inl (fun _ => 0)))] H := hP
  have hD : va_D A [(h0, .inr (4, [.ref r0, .ref r1, .ref r2, .null, .ref q0, .int 0, .int 0])), (q0, .inl (cy 0, 30, .inl (fun _ => 0)))] := hD
  refine lv_aload_n (k := 0) hx hb (by decide +kernel) rfl (lv_at hl 0 rfl) ?_
  refine lv_aload hx hb (by decide +kernel) (lv_at hl 4 rfl) ?_
  refine va_putF (D := D) (v := .ref r3) (ty := .object "GrainDole$Ledger") (C := RX4) (T := TX4) (N := 7) (ref := "GrainDole$Parting") hx hb hts hinX tyX4 tyX4_ok nmX4 hown hK hP hD hS 0 rfl rfl 3 (by decide) (hin _ uw_307) (fun _ h9 => h9) rfl hini rfl (by decide +kernel) rfl rfl (Nat.le_of_ble_eq_true rfl) (by decide +kernel) (fun H locs hP hD hS => ?_)
  have hP : va_P D vwCl [(h0, .inr (4, [.ref r0, .ref r1, .ref r2, .ref r3, .ref q0, .int 0, .int 0])), (q0, .inl (cy 0, 30, .inl (fun _ => 0)))] H := hP
  have hD : va_D A [(h0, .inr (4, [.ref r0, .ref r1, .ref r2, .ref r3, .ref q0, .int 0, .int 0])), (q0, .inl (cy 0, 30, .inl (fun _ => 0)))] := hD
  refine W.widen (k := 1) (n := 30) (Nat.le_of_ble_eq_true rfl) (Nat.le_of_ble_eq_true rfl) ?_
  exact W.vret hx hb hr (fun t ht hW => ⟨⟨(), rfl, trivial, q0, by rw [ht]; exact hP, va_K.moved hW.alike hK, hD⟩, hS.F ht⟩) hS.2.2 (by decide +kernel)
