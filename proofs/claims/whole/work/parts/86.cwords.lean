/-! words of the makers -/
theorem wa_int : Cond.arrayClass .int ∈ tbw := List.mem_filter.mpr ⟨List.mem_of_getElem? (i := 68) (by decide +kernel), by decide +kernel⟩
theorem wa_boolean : Cond.arrayClass .boolean ∈ tbw := List.mem_filter.mpr ⟨List.mem_of_getElem? (i := 69) (by decide +kernel), by decide +kernel⟩
theorem wa_long : Cond.arrayClass .long ∈ tbw := List.mem_filter.mpr ⟨List.mem_of_getElem? (i := 152) (by decide +kernel), by decide +kernel⟩
theorem wo_i : Cond.instanceMethod Lib.objectInit ∈ tbw := List.mem_filter.mpr ⟨List.mem_of_getElem? (i := 44) (by decide +kernel), by decide +kernel⟩
theorem wo_c : Cond.code Lib.objectInit ⟨#[0xb1]⟩ 1 none ∈ tbw := List.mem_filter.mpr ⟨List.mem_of_getElem? (i := 45) (by decide +kernel), by decide +kernel⟩
theorem wo_X0 : Cond.methodLink RX0 3 Lib.objectInit ∈ tbw := List.mem_filter.mpr ⟨List.mem_of_getElem? (i := 75) (by decide +kernel), by decide +kernel⟩
theorem wo_X1 : Cond.methodLink RX1 3 Lib.objectInit ∈ tbw := List.mem_filter.mpr ⟨List.mem_of_getElem? (i := 209) (by decide +kernel), by decide +kernel⟩
theorem wo_X2 : Cond.methodLink RX2 3 Lib.objectInit ∈ tbw := List.mem_filter.mpr ⟨List.mem_of_getElem? (i := 51) (by decide +kernel), by decide +kernel⟩
theorem wo_X3 : Cond.methodLink RX3 3 Lib.objectInit ∈ tbw := List.mem_filter.mpr ⟨List.mem_of_getElem? (i := 123) (by decide +kernel), by decide +kernel⟩
theorem wo_X4 : Cond.methodLink RX4 3 Lib.objectInit ∈ tbw := List.mem_filter.mpr ⟨List.mem_of_getElem? (i := 186) (by decide +kernel), by decide +kernel⟩
theorem wo_X5 : Cond.methodLink RX5 3 Lib.objectInit ∈ tbw := List.mem_filter.mpr ⟨List.mem_of_getElem? (i := 158) (by decide +kernel), by decide +kernel⟩
theorem wo_X6 : Cond.methodLink RX6 1 Lib.objectInit ∈ tbw := List.mem_filter.mpr ⟨List.mem_of_getElem? (i := 43) (by decide +kernel), by decide +kernel⟩
theorem wo_X7 : Cond.methodLink RX7 1 Lib.objectInit ∈ tbw := List.mem_filter.mpr ⟨List.mem_of_getElem? (i := 746) (by decide +kernel), by decide +kernel⟩
theorem wc_X6_7 : Cond.classLink RX6 7 RX2 ∈ tbw := List.mem_filter.mpr ⟨List.mem_of_getElem? (i := 46) (by decide +kernel), by decide +kernel⟩
theorem wn_X2 : Cond.instantiable RX2 5 ∈ tbw := List.mem_filter.mpr ⟨List.mem_of_getElem? (i := 47) (by decide +kernel), by decide +kernel⟩
theorem wi_X2 : Cond.initialized RX2 ∈ tbw := List.mem_filter.mpr ⟨List.mem_of_getElem? (i := 28) (by decide +kernel), by decide +kernel⟩
theorem wc_X6_16 : Cond.classLink RX6 16 RX0 ∈ tbw := List.mem_filter.mpr ⟨List.mem_of_getElem? (i := 70) (by decide +kernel), by decide +kernel⟩
theorem wn_X0 : Cond.instantiable RX0 12 ∈ tbw := List.mem_filter.mpr ⟨List.mem_of_getElem? (i := 71) (by decide +kernel), by decide +kernel⟩
theorem wi_X0 : Cond.initialized RX0 ∈ tbw := List.mem_filter.mpr ⟨List.mem_of_getElem? (i := 29) (by decide +kernel), by decide +kernel⟩
theorem wc_X6_23 : Cond.classLink RX6 23 RX3 ∈ tbw := List.mem_filter.mpr ⟨List.mem_of_getElem? (i := 118) (by decide +kernel), by decide +kernel⟩
theorem wn_X3 : Cond.instantiable RX3 9 ∈ tbw := List.mem_filter.mpr ⟨List.mem_of_getElem? (i := 119) (by decide +kernel), by decide +kernel⟩
theorem wi_X3 : Cond.initialized RX3 ∈ tbw := List.mem_filter.mpr ⟨List.mem_of_getElem? (i := 31) (by decide +kernel), by decide +kernel⟩
theorem wc_X6_30 : Cond.classLink RX6 30 RX5 ∈ tbw := List.mem_filter.mpr ⟨List.mem_of_getElem? (i := 153) (by decide +kernel), by decide +kernel⟩
theorem wn_X5 : Cond.instantiable RX5 7 ∈ tbw := List.mem_filter.mpr ⟨List.mem_of_getElem? (i := 154) (by decide +kernel), by decide +kernel⟩
theorem wi_X5 : Cond.initialized RX5 ∈ tbw := List.mem_filter.mpr ⟨List.mem_of_getElem? (i := 32) (by decide +kernel), by decide +kernel⟩
theorem wc_X6_37 : Cond.classLink RX6 37 RX4 ∈ tbw := List.mem_filter.mpr ⟨List.mem_of_getElem? (i := 181) (by decide +kernel), by decide +kernel⟩
theorem wn_X4 : Cond.instantiable RX4 5 ∈ tbw := List.mem_filter.mpr ⟨List.mem_of_getElem? (i := 182) (by decide +kernel), by decide +kernel⟩
theorem wi_X4 : Cond.initialized RX4 ∈ tbw := List.mem_filter.mpr ⟨List.mem_of_getElem? (i := 33) (by decide +kernel), by decide +kernel⟩
theorem wc_X6_44 : Cond.classLink RX6 44 RX1 ∈ tbw := List.mem_filter.mpr ⟨List.mem_of_getElem? (i := 204) (by decide +kernel), by decide +kernel⟩
theorem wn_X1 : Cond.instantiable RX1 2 ∈ tbw := List.mem_filter.mpr ⟨List.mem_of_getElem? (i := 205) (by decide +kernel), by decide +kernel⟩
theorem wi_X1 : Cond.initialized RX1 ∈ tbw := List.mem_filter.mpr ⟨List.mem_of_getElem? (i := 34) (by decide +kernel), by decide +kernel⟩
theorem wc_X0_9 : Cond.classLink RX0 9 ("[" ++ (FieldType.array .int).toString) ∈ tbw := List.mem_filter.mpr ⟨List.mem_of_getElem? (i := 76) (by decide +kernel), by decide +kernel⟩
theorem wc_X4_15 : Cond.classLink RX4 15 ("[" ++ (FieldType.array .int).toString) ∈ tbw := List.mem_filter.mpr ⟨List.mem_of_getElem? (i := 187) (by decide +kernel), by decide +kernel⟩
theorem wc_L_7 : Cond.classLink RL 7 RX6 ∈ tbw := List.mem_filter.mpr ⟨List.mem_of_getElem? (i := 38) (by decide +kernel), by decide +kernel⟩
theorem wn_X6 : Cond.instantiable RX6 9 ∈ tbw := List.mem_filter.mpr ⟨List.mem_of_getElem? (i := 39) (by decide +kernel), by decide +kernel⟩
theorem wi_X6 : Cond.initialized RX6 ∈ tbw := List.mem_filter.mpr ⟨List.mem_of_getElem? (i := 27) (by decide +kernel), by decide +kernel⟩
theorem wc_L_10 : Cond.classLink RL 10 RX7 ∈ tbw := List.mem_filter.mpr ⟨List.mem_of_getElem? (i := 741) (by decide +kernel), by decide +kernel⟩
theorem wn_X7 : Cond.instantiable RX7 44 ∈ tbw := List.mem_filter.mpr ⟨List.mem_of_getElem? (i := 742) (by decide +kernel), by decide +kernel⟩
theorem wi_X7 : Cond.initialized RX7 ∈ tbw := List.mem_filter.mpr ⟨List.mem_of_getElem? (i := 35) (by decide +kernel), by decide +kernel⟩
theorem ci_X6_18 : cwI' RX6 18 yX0_init cX0_init 2 0 := ⟨⟨⟨List.mem_filter.mpr ⟨List.mem_of_getElem? (i := 72) (by decide +kernel), by decide +kernel⟩, List.mem_filter.mpr ⟨List.mem_of_getElem? (i := 74) (by decide +kernel), by decide +kernel⟩, List.mem_filter.mpr ⟨List.mem_of_getElem? (i := 29) (by decide +kernel), by decide +kernel⟩⟩, by decide +kernel⟩, List.mem_filter.mpr ⟨List.mem_of_getElem? (i := 73) (by decide +kernel), by decide +kernel⟩, rfl⟩
theorem ci_L_9 : cwI' RL 9 yX6_init cX6_init 1 0 := ⟨⟨⟨List.mem_filter.mpr ⟨List.mem_of_getElem? (i := 40) (by decide +kernel), by decide +kernel⟩, List.mem_filter.mpr ⟨List.mem_of_getElem? (i := 42) (by decide +kernel), by decide +kernel⟩, List.mem_filter.mpr ⟨List.mem_of_getElem? (i := 27) (by decide +kernel), by decide +kernel⟩⟩, by decide +kernel⟩, List.mem_filter.mpr ⟨List.mem_of_getElem? (i := 41) (by decide +kernel), by decide +kernel⟩, rfl⟩
theorem ci_L_12 : cwI' RL 12 yX7_init cX7_init 2 0 := ⟨⟨⟨List.mem_filter.mpr ⟨List.mem_of_getElem? (i := 743) (by decide +kernel), by decide +kernel⟩, List.mem_filter.mpr ⟨List.mem_of_getElem? (i := 745) (by decide +kernel), by decide +kernel⟩, List.mem_filter.mpr ⟨List.mem_of_getElem? (i := 35) (by decide +kernel), by decide +kernel⟩⟩, by decide +kernel⟩, List.mem_filter.mpr ⟨List.mem_of_getElem? (i := 744) (by decide +kernel), by decide +kernel⟩, rfl⟩
theorem wy_X2 : Cond.code yX2_init cX2_init 1 none ∈ tbw := List.mem_filter.mpr ⟨List.mem_of_getElem? (i := 50) (by decide +kernel), by decide +kernel⟩
theorem wj_X2 : Cond.instanceMethod yX2_init ∈ tbw := List.mem_filter.mpr ⟨List.mem_of_getElem? (i := 49) (by decide +kernel), by decide +kernel⟩
theorem wy_X3 : Cond.code yX3_init cX3_init 1 none ∈ tbw := List.mem_filter.mpr ⟨List.mem_of_getElem? (i := 122) (by decide +kernel), by decide +kernel⟩
theorem wj_X3 : Cond.instanceMethod yX3_init ∈ tbw := List.mem_filter.mpr ⟨List.mem_of_getElem? (i := 121) (by decide +kernel), by decide +kernel⟩
theorem wy_X5 : Cond.code yX5_init cX5_init 1 none ∈ tbw := List.mem_filter.mpr ⟨List.mem_of_getElem? (i := 157) (by decide +kernel), by decide +kernel⟩
theorem wj_X5 : Cond.instanceMethod yX5_init ∈ tbw := List.mem_filter.mpr ⟨List.mem_of_getElem? (i := 156) (by decide +kernel), by decide +kernel⟩
theorem wy_X4 : Cond.code yX4_init cX4_init 1 none ∈ tbw := List.mem_filter.mpr ⟨List.mem_of_getElem? (i := 185) (by decide +kernel), by decide +kernel⟩
theorem wj_X4 : Cond.instanceMethod yX4_init ∈ tbw := List.mem_filter.mpr ⟨List.mem_of_getElem? (i := 184) (by decide +kernel), by decide +kernel⟩
theorem wy_X1 : Cond.code yX1_init cX1_init 1 none ∈ tbw := List.mem_filter.mpr ⟨List.mem_of_getElem? (i := 208) (by decide +kernel), by decide +kernel⟩
theorem wj_X1 : Cond.instanceMethod yX1_init ∈ tbw := List.mem_filter.mpr ⟨List.mem_of_getElem? (i := 207) (by decide +kernel), by decide +kernel⟩
