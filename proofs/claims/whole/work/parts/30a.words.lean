theorem uk_L_7 : Cond.classLink RL 7 RX6 ∈ gU := gU_1 17 (by decide +kernel) (by decide +kernel)
theorem un_X6 : Cond.instantiable RX6 10 ∈ gU := gU_1 18 (by decide +kernel) (by decide +kernel)
theorem uk_X6_7 : Cond.classLink RX6 7 RX5 ∈ gU := gU_1 25 (by decide +kernel) (by decide +kernel)
theorem un_X5 : Cond.instantiable RX5 7 ∈ gU := gU_1 26 (by decide +kernel) (by decide +kernel)
theorem uz_ai : Cond.arrayClass (newarray.typeOf .int) ∈ gU := gU_1 71 (by decide +kernel) (by decide +kernel)
theorem uk_X6_19 : Cond.classLink RX6 19 RX1 ∈ gU := gU_1 72 (by decide +kernel) (by decide +kernel)
theorem un_X1 : Cond.instantiable RX1 3 ∈ gU := gU_1 73 (by decide +kernel) (by decide +kernel)
theorem uk_X6_26 : Cond.classLink RX6 26 RX4 ∈ gU := gU_1 91 (by decide +kernel) (by decide +kernel)
theorem un_X4 : Cond.instantiable RX4 6 ∈ gU := gU_1 92 (by decide +kernel) (by decide +kernel)
theorem uk_X6_33 : Cond.classLink RX6 33 RX2 ∈ gU := gU_1 122 (by decide +kernel) (by decide +kernel)
theorem un_X2 : Cond.instantiable RX2 7 ∈ gU := gU_1 123 (by decide +kernel) (by decide +kernel)
theorem uk_X2_9 : Cond.classLink RX2 9 RX5 ∈ gU := gU_1 128 (by decide +kernel) (by decide +kernel)
theorem uk_X6_40 : Cond.classLink RX6 40 RX0 ∈ gU := gU_1 154 (by decide +kernel) (by decide +kernel)
theorem un_X0 : Cond.instantiable RX0 15 ∈ gU := gU_1 155 (by decide +kernel) (by decide +kernel)
theorem uk_X6_55 : Cond.classLink RX6 55 RX3 ∈ gU := gU_1 214 (by decide +kernel) (by decide +kernel)
theorem un_X3 : Cond.instantiable RX3 4 ∈ gU := gU_1 216 (by decide +kernel) (by decide +kernel)
theorem uz_az : Cond.arrayClass (newarray.typeOf .boolean) ∈ gU := gU_1 237 (by decide +kernel) (by decide +kernel)
theorem uk_L_10 : Cond.classLink RL 10 RX7 ∈ gU := gU_4 56 (by decide +kernel) (by decide +kernel)
theorem un_X7 : Cond.instantiable RX7 32 ∈ gU := gU_4 57 (by decide +kernel) (by decide +kernel)
theorem uz_oi : Cond.instanceMethod Lib.objectInit ∈ gU := gU_1 23 (by decide +kernel) (by decide +kernel)
theorem uz_oc : Cond.code Lib.objectInit ⟨#[0xb1]⟩ 1 none ∈ gU := gU_1 24 (by decide +kernel) (by decide +kernel)
theorem uo_X6_init : Cond.instanceMethod yX6_init ∈ gU ∧ Cond.initialized yX6_init.cls ∈ gU ∧ Cond.code yX6_init cX6_init 1 none ∈ gU ∧ gb_nm yX6_init 0 ∧ 1 ≤ 80 ∧ yX6_init.name = "<init>" := ⟨gU_1 20 (by decide +kernel) (by decide +kernel), ui_GuiltBell, gU_1 21 (by decide +kernel) (by decide +kernel), ⟨by decide +kernel, by decide +kernel, by decide +kernel⟩, by decide, rfl⟩
theorem uo_X5_init : Cond.instanceMethod yX5_init ∈ gU ∧ Cond.initialized yX5_init.cls ∈ gU ∧ Cond.code yX5_init cX5_init 1 none ∈ gU ∧ gb_nm yX5_init 0 ∧ 1 ≤ 80 ∧ yX5_init.name = "<init>" := ⟨gU_1 28 (by decide +kernel) (by decide +kernel), ui_GuiltBell_Town, gU_1 29 (by decide +kernel) (by decide +kernel), ⟨by decide +kernel, by decide +kernel, by decide +kernel⟩, by decide, rfl⟩
theorem uo_X1_init : Cond.instanceMethod yX1_init ∈ gU ∧ Cond.initialized yX1_init.cls ∈ gU ∧ Cond.code yX1_init cX1_init 1 none ∈ gU ∧ gb_nm yX1_init 0 ∧ 1 ≤ 80 ∧ yX1_init.name = "<init>" := ⟨gU_1 75 (by decide +kernel) (by decide +kernel), ui_GuiltBell_Melt, gU_1 76 (by decide +kernel) (by decide +kernel), ⟨by decide +kernel, by decide +kernel, by decide +kernel⟩, by decide, rfl⟩
theorem uo_X4_init : Cond.instanceMethod yX4_init ∈ gU ∧ Cond.initialized yX4_init.cls ∈ gU ∧ Cond.code yX4_init cX4_init 1 none ∈ gU ∧ gb_nm yX4_init 0 ∧ 1 ≤ 80 ∧ yX4_init.name = "<init>" := ⟨gU_1 94 (by decide +kernel) (by decide +kernel), ui_GuiltBell_Tape, gU_1 95 (by decide +kernel) (by decide +kernel), ⟨by decide +kernel, by decide +kernel, by decide +kernel⟩, by decide, rfl⟩
theorem uo_X2_init : Cond.instanceMethod yX2_init ∈ gU ∧ Cond.initialized yX2_init.cls ∈ gU ∧ Cond.code yX2_init cX2_init 1 none ∈ gU ∧ gb_nm yX2_init 0 ∧ 1 ≤ 80 ∧ yX2_init.name = "<init>" := ⟨gU_1 125 (by decide +kernel) (by decide +kernel), ui_GuiltBell_Scribe, gU_1 126 (by decide +kernel) (by decide +kernel), ⟨by decide +kernel, by decide +kernel, by decide +kernel⟩, by decide, rfl⟩
theorem uo_X0_init : Cond.instanceMethod yX0_init ∈ gU ∧ Cond.initialized yX0_init.cls ∈ gU ∧ Cond.code yX0_init cX0_init 1 none ∈ gU ∧ gb_nm yX0_init 0 ∧ 1 ≤ 80 ∧ yX0_init.name = "<init>" := ⟨gU_1 157 (by decide +kernel) (by decide +kernel), ui_GuiltBell_Guesses, gU_1 158 (by decide +kernel) (by decide +kernel), ⟨by decide +kernel, by decide +kernel, by decide +kernel⟩, by decide, rfl⟩
theorem uo_X3_init : Cond.instanceMethod yX3_init ∈ gU ∧ Cond.initialized yX3_init.cls ∈ gU ∧ Cond.code yX3_init cX3_init 1 none ∈ gU ∧ gb_nm yX3_init 0 ∧ 1 ≤ 80 ∧ yX3_init.name = "<init>" := ⟨gU_1 218 (by decide +kernel) (by decide +kernel), ui_GuiltBell_Sheet, gU_1 219 (by decide +kernel) (by decide +kernel), ⟨by decide +kernel, by decide +kernel, by decide +kernel⟩, by decide, rfl⟩
theorem uo_X7_init : Cond.instanceMethod yX7_init ∈ gU ∧ Cond.initialized yX7_init.cls ∈ gU ∧ Cond.code yX7_init cX7_init 1 none ∈ gU ∧ gb_nm yX7_init 0 ∧ 1 ≤ 80 ∧ yX7_init.name = "<init>" := ⟨gU_4 59 (by decide +kernel) (by decide +kernel), ui_GuiltBellModel, gU_4 60 (by decide +kernel) (by decide +kernel), ⟨by decide +kernel, by decide +kernel, by decide +kernel⟩, by decide, rfl⟩
