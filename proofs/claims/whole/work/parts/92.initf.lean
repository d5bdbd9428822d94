/-! ===== 92: facts of the constructors ===== -/
theorem okX0_init : okI mX0_init := ⟨⟨lw_gd (List.mem_of_getElem? (i := 213) (by decide +kernel)) (by decide +kernel), lw_gd (List.mem_of_getElem? (i := 66) (by decide +kernel)) (by decide +kernel), ⟨by decide +kernel, by decide +kernel, by decide +kernel⟩, by decide⟩, rfl, lw_gd (List.mem_of_getElem? (i := 212) (by decide +kernel)) (by decide +kernel), rfl⟩
theorem okX1_init : okI mX1_init := ⟨⟨lw_gd (List.mem_of_getElem? (i := 267) (by decide +kernel)) (by decide +kernel), lw_gd (List.mem_of_getElem? (i := 69) (by decide +kernel)) (by decide +kernel), ⟨by decide +kernel, by decide +kernel, by decide +kernel⟩, by decide⟩, rfl, lw_gd (List.mem_of_getElem? (i := 266) (by decide +kernel)) (by decide +kernel), rfl⟩
theorem okX2_init : okI mX2_init := ⟨⟨lw_gd (List.mem_of_getElem? (i := 233) (by decide +kernel)) (by decide +kernel), lw_gd (List.mem_of_getElem? (i := 67) (by decide +kernel)) (by decide +kernel), ⟨by decide +kernel, by decide +kernel, by decide +kernel⟩, by decide⟩, rfl, lw_gd (List.mem_of_getElem? (i := 232) (by decide +kernel)) (by decide +kernel), rfl⟩
theorem okX3_init : okI mX3_init := ⟨⟨lw_gd (List.mem_of_getElem? (i := 115) (by decide +kernel)) (by decide +kernel), lw_gd (List.mem_of_getElem? (i := 65) (by decide +kernel)) (by decide +kernel), ⟨by decide +kernel, by decide +kernel, by decide +kernel⟩, by decide⟩, rfl, lw_gd (List.mem_of_getElem? (i := 114) (by decide +kernel)) (by decide +kernel), rfl⟩
theorem okX4_init : okI mX4_init := ⟨⟨lw_gd (List.mem_of_getElem? (i := 93) (by decide +kernel)) (by decide +kernel), lw_gd (List.mem_of_getElem? (i := 63) (by decide +kernel)) (by decide +kernel), ⟨by decide +kernel, by decide +kernel, by decide +kernel⟩, by decide⟩, rfl, lw_gd (List.mem_of_getElem? (i := 92) (by decide +kernel)) (by decide +kernel), rfl⟩
theorem okX5_init : okI mX5_init := ⟨⟨lw_gd (List.mem_of_getElem? (i := 281) (by decide +kernel)) (by decide +kernel), lw_gd (List.mem_of_getElem? (i := 70) (by decide +kernel)) (by decide +kernel), ⟨by decide +kernel, by decide +kernel, by decide +kernel⟩, by decide⟩, rfl, lw_gd (List.mem_of_getElem? (i := 280) (by decide +kernel)) (by decide +kernel), rfl⟩
theorem okX6_init : okI mX6_init := ⟨⟨lw_gd (List.mem_of_getElem? (i := 252) (by decide +kernel)) (by decide +kernel), lw_gd (List.mem_of_getElem? (i := 68) (by decide +kernel)) (by decide +kernel), ⟨by decide +kernel, by decide +kernel, by decide +kernel⟩, by decide⟩, rfl, lw_gd (List.mem_of_getElem? (i := 251) (by decide +kernel)) (by decide +kernel), rfl⟩
theorem okX7_init : okI mX7_init := ⟨⟨lw_gd (List.mem_of_getElem? (i := 99) (by decide +kernel)) (by decide +kernel), lw_gd (List.mem_of_getElem? (i := 64) (by decide +kernel)) (by decide +kernel), ⟨by decide +kernel, by decide +kernel, by decide +kernel⟩, by decide⟩, rfl, lw_gd (List.mem_of_getElem? (i := 98) (by decide +kernel)) (by decide +kernel), rfl⟩
theorem okX8_init : okI mX8_init := ⟨⟨lw_gd (List.mem_of_getElem? (i := 83) (by decide +kernel)) (by decide +kernel), lw_gd (List.mem_of_getElem? (i := 62) (by decide +kernel)) (by decide +kernel), ⟨by decide +kernel, by decide +kernel, by decide +kernel⟩, by decide⟩, rfl, lw_gd (List.mem_of_getElem? (i := 82) (by decide +kernel)) (by decide +kernel), rfl⟩
theorem okX9_init : okI mX9_init := ⟨⟨lw_gd (List.mem_of_getElem? (i := 843) (by decide +kernel)) (by decide +kernel), lw_gd (List.mem_of_getElem? (i := 71) (by decide +kernel)) (by decide +kernel), ⟨by decide +kernel, by decide +kernel, by decide +kernel⟩, by decide⟩, rfl, lw_gd (List.mem_of_getElem? (i := 842) (by decide +kernel)) (by decide +kernel), rfl⟩
theorem ki_X0 : Cond.instantiable RX0 3 ∈ lw_good := lw_gd (List.mem_of_getElem? (i := 210) (by decide +kernel)) (by decide +kernel)
theorem kn_X0 : Cond.initialized RX0 ∈ lw_good := lw_gd (List.mem_of_getElem? (i := 66) (by decide +kernel)) (by decide +kernel)
theorem ki_X1 : Cond.instantiable RX1 2 ∈ lw_good := lw_gd (List.mem_of_getElem? (i := 264) (by decide +kernel)) (by decide +kernel)
theorem kn_X1 : Cond.initialized RX1 ∈ lw_good := lw_gd (List.mem_of_getElem? (i := 69) (by decide +kernel)) (by decide +kernel)
theorem ki_X2 : Cond.instantiable RX2 3 ∈ lw_good := lw_gd (List.mem_of_getElem? (i := 230) (by decide +kernel)) (by decide +kernel)
theorem kn_X2 : Cond.initialized RX2 ∈ lw_good := lw_gd (List.mem_of_getElem? (i := 67) (by decide +kernel)) (by decide +kernel)
theorem ki_X3 : Cond.instantiable RX3 12 ∈ lw_good := lw_gd (List.mem_of_getElem? (i := 112) (by decide +kernel)) (by decide +kernel)
theorem kn_X3 : Cond.initialized RX3 ∈ lw_good := lw_gd (List.mem_of_getElem? (i := 65) (by decide +kernel)) (by decide +kernel)
theorem ki_X4 : Cond.instantiable RX4 8 ∈ lw_good := lw_gd (List.mem_of_getElem? (i := 90) (by decide +kernel)) (by decide +kernel)
theorem kn_X4 : Cond.initialized RX4 ∈ lw_good := lw_gd (List.mem_of_getElem? (i := 63) (by decide +kernel)) (by decide +kernel)
theorem ki_X5 : Cond.instantiable RX5 3 ∈ lw_good := lw_gd (List.mem_of_getElem? (i := 278) (by decide +kernel)) (by decide +kernel)
theorem kn_X5 : Cond.initialized RX5 ∈ lw_good := lw_gd (List.mem_of_getElem? (i := 70) (by decide +kernel)) (by decide +kernel)
theorem ki_X6 : Cond.instantiable RX6 2 ∈ lw_good := lw_gd (List.mem_of_getElem? (i := 249) (by decide +kernel)) (by decide +kernel)
theorem kn_X6 : Cond.initialized RX6 ∈ lw_good := lw_gd (List.mem_of_getElem? (i := 68) (by decide +kernel)) (by decide +kernel)
theorem ki_X7 : Cond.instantiable RX7 2 ∈ lw_good := lw_gd (List.mem_of_getElem? (i := 96) (by decide +kernel)) (by decide +kernel)
theorem kn_X7 : Cond.initialized RX7 ∈ lw_good := lw_gd (List.mem_of_getElem? (i := 64) (by decide +kernel)) (by decide +kernel)
theorem ki_X8 : Cond.instantiable RX8 10 ∈ lw_good := lw_gd (List.mem_of_getElem? (i := 80) (by decide +kernel)) (by decide +kernel)
theorem kn_X8 : Cond.initialized RX8 ∈ lw_good := lw_gd (List.mem_of_getElem? (i := 62) (by decide +kernel)) (by decide +kernel)
theorem ki_X9 : Cond.instantiable RX9 28 ∈ lw_good := lw_gd (List.mem_of_getElem? (i := 840) (by decide +kernel)) (by decide +kernel)
theorem kn_X9 : Cond.initialized RX9 ∈ lw_good := lw_gd (List.mem_of_getElem? (i := 71) (by decide +kernel)) (by decide +kernel)
theorem kar_int : Cond.arrayClass .int ∈ lw_good := lw_gd (List.mem_of_getElem? (i := 177) (by decide +kernel)) (by decide +kernel)
theorem kar_byte : Cond.arrayClass .byte ∈ lw_good := lw_gd (List.mem_of_getElem? (i := 110) (by decide +kernel)) (by decide +kernel)
theorem kar_long : Cond.arrayClass .long ∈ lw_good := lw_gd (List.mem_of_getElem? (i := 247) (by decide +kernel)) (by decide +kernel)
theorem kar_boolean : Cond.arrayClass .boolean ∈ lw_good := lw_gd (List.mem_of_getElem? (i := 930) (by decide +kernel)) (by decide +kernel)
theorem ko_X0_3 : Cond.methodLink RX0 3 Lib.objectInit ∈ lw_good := lw_gd (List.mem_of_getElem? (i := 214) (by decide +kernel)) (by decide +kernel)
theorem kl_X0_9 : Cond.classLink RX0 9 RX3 ∈ lw_good := lw_gd (List.mem_of_getElem? (i := 215) (by decide +kernel)) (by decide +kernel)
theorem kx_X0_24 : Cond.methodLinkNest RX0 24 yX3_init "TopSheet" ∈ lw_nest := List.mem_filter.mpr ⟨List.mem_of_getElem? (i := 217) (by decide +kernel), rfl⟩
theorem ko_X1_1 : Cond.methodLink RX1 1 Lib.objectInit ∈ lw_good := lw_gd (List.mem_of_getElem? (i := 268) (by decide +kernel)) (by decide +kernel)
theorem ko_X2_3 : Cond.methodLink RX2 3 Lib.objectInit ∈ lw_good := lw_gd (List.mem_of_getElem? (i := 234) (by decide +kernel)) (by decide +kernel)
theorem ko_X3_3 : Cond.methodLink RX3 3 Lib.objectInit ∈ lw_good := lw_gd (List.mem_of_getElem? (i := 116) (by decide +kernel)) (by decide +kernel)
theorem ko_X4_3 : Cond.methodLink RX4 3 Lib.objectInit ∈ lw_good := lw_gd (List.mem_of_getElem? (i := 94) (by decide +kernel)) (by decide +kernel)
theorem kl_X4_9 : Cond.classLink RX4 9 RX7 ∈ lw_good := lw_gd (List.mem_of_getElem? (i := 95) (by decide +kernel)) (by decide +kernel)
theorem kx_X4_11 : Cond.methodLinkNest RX4 11 yX7_init "TopSheet" ∈ lw_nest := List.mem_filter.mpr ⟨List.mem_of_getElem? (i := 97) (by decide +kernel), rfl⟩
theorem kl_X4_18 : Cond.classLink RX4 18 RX3 ∈ lw_good := lw_gd (List.mem_of_getElem? (i := 111) (by decide +kernel)) (by decide +kernel)
theorem kx_X4_20 : Cond.methodLinkNest RX4 20 yX3_init "TopSheet" ∈ lw_nest := List.mem_filter.mpr ⟨List.mem_of_getElem? (i := 113) (by decide +kernel), rfl⟩
theorem ko_X5_3 : Cond.methodLink RX5 3 Lib.objectInit ∈ lw_good := lw_gd (List.mem_of_getElem? (i := 282) (by decide +kernel)) (by decide +kernel)
theorem ko_X6_3 : Cond.methodLink RX6 3 Lib.objectInit ∈ lw_good := lw_gd (List.mem_of_getElem? (i := 253) (by decide +kernel)) (by decide +kernel)
theorem ko_X7_3 : Cond.methodLink RX7 3 Lib.objectInit ∈ lw_good := lw_gd (List.mem_of_getElem? (i := 100) (by decide +kernel)) (by decide +kernel)
theorem ko_X8_1 : Cond.methodLink RX8 1 Lib.objectInit ∈ lw_good := lw_gd (List.mem_of_getElem? (i := 84) (by decide +kernel)) (by decide +kernel)
theorem kl_X8_9 : Cond.classLink RX8 9 RX5 ∈ lw_good := lw_gd (List.mem_of_getElem? (i := 87) (by decide +kernel)) (by decide +kernel)
theorem kl_X8_15 : Cond.classLink RX8 15 RX4 ∈ lw_good := lw_gd (List.mem_of_getElem? (i := 89) (by decide +kernel)) (by decide +kernel)
theorem kx_X8_17 : Cond.methodLinkNest RX8 17 yX4_init "TopSheet" ∈ lw_nest := List.mem_filter.mpr ⟨List.mem_of_getElem? (i := 91) (by decide +kernel), rfl⟩
theorem kl_X8_22 : Cond.classLink RX8 22 RX3 ∈ lw_good := lw_gd (List.mem_of_getElem? (i := 207) (by decide +kernel)) (by decide +kernel)
theorem kx_X8_24 : Cond.methodLinkNest RX8 24 yX3_init "TopSheet" ∈ lw_nest := List.mem_filter.mpr ⟨List.mem_of_getElem? (i := 208) (by decide +kernel), rfl⟩
theorem kl_X8_29 : Cond.classLink RX8 29 RX0 ∈ lw_good := lw_gd (List.mem_of_getElem? (i := 209) (by decide +kernel)) (by decide +kernel)
theorem kx_X8_31 : Cond.methodLink RX8 31 yX0_init ∈ lw_good := lw_gd (List.mem_of_getElem? (i := 211) (by decide +kernel)) (by decide +kernel)
theorem kl_X8_40 : Cond.classLink RX8 40 RX2 ∈ lw_good := lw_gd (List.mem_of_getElem? (i := 229) (by decide +kernel)) (by decide +kernel)
theorem kx_X8_42 : Cond.methodLinkNest RX8 42 yX2_init "TopSheet" ∈ lw_nest := List.mem_filter.mpr ⟨List.mem_of_getElem? (i := 231) (by decide +kernel), rfl⟩
theorem kl_X8_47 : Cond.classLink RX8 47 RX6 ∈ lw_good := lw_gd (List.mem_of_getElem? (i := 248) (by decide +kernel)) (by decide +kernel)
theorem kx_X8_49 : Cond.methodLinkNest RX8 49 yX6_init "TopSheet" ∈ lw_nest := List.mem_filter.mpr ⟨List.mem_of_getElem? (i := 250) (by decide +kernel), rfl⟩
theorem kl_X8_54 : Cond.classLink RX8 54 RX1 ∈ lw_good := lw_gd (List.mem_of_getElem? (i := 263) (by decide +kernel)) (by decide +kernel)
theorem kx_X8_56 : Cond.methodLinkNest RX8 56 yX1_init "TopSheet" ∈ lw_nest := List.mem_filter.mpr ⟨List.mem_of_getElem? (i := 265) (by decide +kernel), rfl⟩
theorem kx_X8_68 : Cond.methodLinkNest RX8 68 yX5_init "TopSheet" ∈ lw_nest := List.mem_filter.mpr ⟨List.mem_of_getElem? (i := 279) (by decide +kernel), rfl⟩
theorem ko_X9_1 : Cond.methodLink RX9 1 Lib.objectInit ∈ lw_good := lw_gd (List.mem_of_getElem? (i := 844) (by decide +kernel)) (by decide +kernel)
