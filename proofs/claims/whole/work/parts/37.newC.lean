/-! words for constructors; the constructors of the small classes -/
theorem nq_oi : Cond.instanceMethod objectInit ∈ fm_T := fm_mem 62 (by decide +kernel) rfl
theorem nq_oc : Cond.code objectInit ⟨#[0xb1]⟩ 1 none ∈ fm_T := fm_mem 63 (by decide +kernel) rfl
theorem nq_ai : Cond.arrayClass .int ∈ fm_T := fm_mem 87 (by decide +kernel) rfl
theorem nq_ml_X0 : Cond.methodLink RX0 3 objectInit ∈ fm_T := fm_mem 133 (by decide +kernel) rfl
theorem nq_in_X0 : Cond.instantiable RX0 5 ∈ fm_T := fm_mem 129 (by decide +kernel) rfl
theorem nq_it_X0 : Cond.initialized RX0 ∈ fm_T := fm_mem 47 (by decide +kernel) rfl
theorem nq_y_X0 : nw_Y yX0_init cX0_init 1 0 := ⟨nq_it_X0, fm_mem 131 (by decide +kernel) rfl, fm_mem 132 (by decide +kernel) rfl, rfl, by decide, by decide, by decide +kernel⟩
theorem nq_d_X0 : ∀ j, j < 5 → defaultValue (tyX0 j) = vp_V [.null, .null, .null, .null, fm_I 0] j := fun j hj => by
  rcases (show j = 0 ∨ j = 1 ∨ j = 2 ∨ j = 3 ∨ j = 4 by omega) with rfl | rfl | rfl | rfl | rfl <;> first | rfl | exact congrArg Value.int fm_z0
theorem nq_f_X0_0 : nw_Wf RX0 0 0 := ⟨RX0, TX0, 5, .array (.array .int), rfl, rfl, rfl, by decide +kernel, fun a => ⟨rfl, rfl⟩⟩
theorem nq_f_X0_1 : nw_Wf RX0 0 1 := ⟨RX0, TX0, 5, .array .int, rfl, rfl, rfl, by decide +kernel, fun a => ⟨rfl, rfl⟩⟩
theorem nq_f_X0_2 : nw_Wf RX0 0 2 := ⟨RX0, TX0, 5, .array .int, rfl, rfl, rfl, by decide +kernel, fun a => ⟨rfl, rfl⟩⟩
theorem nq_f_X0_3 : nw_Wf RX0 0 3 := ⟨RX0, TX0, 5, .array .int, rfl, rfl, rfl, by decide +kernel, fun a => ⟨rfl, rfl⟩⟩
theorem nq_ml_X1 : Cond.methodLink RX1 3 objectInit ∈ fm_T := fm_mem 93 (by decide +kernel) rfl
theorem nq_in_X1 : Cond.instantiable RX1 2 ∈ fm_T := fm_mem 89 (by decide +kernel) rfl
theorem nq_it_X1 : Cond.initialized RX1 ∈ fm_T := fm_mem 45 (by decide +kernel) rfl
theorem nq_y_X1 : nw_Y yX1_init cX1_init 1 0 := ⟨nq_it_X1, fm_mem 91 (by decide +kernel) rfl, fm_mem 92 (by decide +kernel) rfl, rfl, by decide, by decide, by decide +kernel⟩
theorem nq_d_X1 : ∀ j, j < 2 → defaultValue (tyX1 j) = vp_V [.null, .null] j := fun j hj => by
  rcases (show j = 0 ∨ j = 1 by omega) with rfl | rfl <;> first | rfl | exact congrArg Value.int fm_z0
theorem nq_f_X1_0 : nw_Wf RX1 1 0 := ⟨RX1, TX1, 2, .array (.array .int), rfl, rfl, rfl, by decide +kernel, fun a => ⟨rfl, rfl⟩⟩
theorem nq_f_X1_1 : nw_Wf RX1 1 1 := ⟨RX1, TX1, 2, .array .int, rfl, rfl, rfl, by decide +kernel, fun a => ⟨rfl, rfl⟩⟩
theorem nq_ml_X2 : Cond.methodLink RX2 3 objectInit ∈ fm_T := fm_mem 110 (by decide +kernel) rfl
theorem nq_in_X2 : Cond.instantiable RX2 5 ∈ fm_T := fm_mem 106 (by decide +kernel) rfl
theorem nq_it_X2 : Cond.initialized RX2 ∈ fm_T := fm_mem 46 (by decide +kernel) rfl
theorem nq_y_X2 : nw_Y yX2_init cX2_init 1 0 := ⟨nq_it_X2, fm_mem 108 (by decide +kernel) rfl, fm_mem 109 (by decide +kernel) rfl, rfl, by decide, by decide, by decide +kernel⟩
theorem nq_d_X2 : ∀ j, j < 5 → defaultValue (tyX2 j) = vp_V [.null, .null, .null, .null, fm_I 0] j := fun j hj => by
  rcases (show j = 0 ∨ j = 1 ∨ j = 2 ∨ j = 3 ∨ j = 4 by omega) with rfl | rfl | rfl | rfl | rfl <;> first | rfl | exact congrArg Value.int fm_z0
theorem nq_f_X2_0 : nw_Wf RX2 2 0 := ⟨RX2, TX2, 5, .array .int, rfl, rfl, rfl, by decide +kernel, fun a => ⟨rfl, rfl⟩⟩
theorem nq_f_X2_1 : nw_Wf RX2 2 1 := ⟨RX2, TX2, 5, .array .int, rfl, rfl, rfl, by decide +kernel, fun a => ⟨rfl, rfl⟩⟩
theorem nq_f_X2_2 : nw_Wf RX2 2 2 := ⟨RX2, TX2, 5, .array .int, rfl, rfl, rfl, by decide +kernel, fun a => ⟨rfl, rfl⟩⟩
theorem nq_f_X2_3 : nw_Wf RX2 2 3 := ⟨RX2, TX2, 5, .array .int, rfl, rfl, rfl, by decide +kernel, fun a => ⟨rfl, rfl⟩⟩
theorem nq_ml_X3 : Cond.methodLink RX3 3 objectInit ∈ fm_T := fm_mem 180 (by decide +kernel) rfl
theorem nq_in_X3 : Cond.instantiable RX3 4 ∈ fm_T := fm_mem 176 (by decide +kernel) rfl
theorem nq_it_X3 : Cond.initialized RX3 ∈ fm_T := fm_mem 49 (by decide +kernel) rfl
theorem nq_y_X3 : nw_Y yX3_init cX3_init 1 0 := ⟨nq_it_X3, fm_mem 178 (by decide +kernel) rfl, fm_mem 179 (by decide +kernel) rfl, rfl, by decide, by decide, by decide +kernel⟩
theorem nq_d_X3 : ∀ j, j < 4 → defaultValue (tyX3 j) = vp_V [.null, .null, .null, fm_I 0] j := fun j hj => by
  rcases (show j = 0 ∨ j = 1 ∨ j = 2 ∨ j = 3 by omega) with rfl | rfl | rfl | rfl <;> first | rfl | exact congrArg Value.int fm_z0
theorem nq_f_X3_0 : nw_Wf RX3 3 0 := ⟨RX3, TX3, 4, .array .int, rfl, rfl, rfl, by decide +kernel, fun a => ⟨rfl, rfl⟩⟩
theorem nq_f_X3_1 : nw_Wf RX3 3 1 := ⟨RX3, TX3, 4, .array .int, rfl, rfl, rfl, by decide +kernel, fun a => ⟨rfl, rfl⟩⟩
theorem nq_f_X3_2 : nw_Wf RX3 3 2 := ⟨RX3, TX3, 4, .array .int, rfl, rfl, rfl, by decide +kernel, fun a => ⟨rfl, rfl⟩⟩
theorem nq_ml_X4 : Cond.methodLink RX4 3 objectInit ∈ fm_T := fm_mem 71 (by decide +kernel) rfl
theorem nq_in_X4 : Cond.instantiable RX4 3 ∈ fm_T := fm_mem 67 (by decide +kernel) rfl
theorem nq_it_X4 : Cond.initialized RX4 ∈ fm_T := fm_mem 44 (by decide +kernel) rfl
theorem nq_y_X4 : nw_Y yX4_init cX4_init 1 0 := ⟨nq_it_X4, fm_mem 69 (by decide +kernel) rfl, fm_mem 70 (by decide +kernel) rfl, rfl, by decide, by decide, by decide +kernel⟩
theorem nq_d_X4 : ∀ j, j < 3 → defaultValue (tyX4 j) = vp_V [.null, .null, fm_I 0] j := fun j hj => by
  rcases (show j = 0 ∨ j = 1 ∨ j = 2 by omega) with rfl | rfl | rfl <;> first | rfl | exact congrArg Value.int fm_z0
theorem nq_f_X4_0 : nw_Wf RX4 4 0 := ⟨RX4, TX4, 3, .array .int, rfl, rfl, rfl, by decide +kernel, fun a => ⟨rfl, rfl⟩⟩
theorem nq_f_X4_1 : nw_Wf RX4 4 1 := ⟨RX4, TX4, 3, .array .int, rfl, rfl, rfl, by decide +kernel, fun a => ⟨rfl, rfl⟩⟩
theorem nq_ml_X5 : Cond.methodLink RX5 3 objectInit ∈ fm_T := fm_mem 207 (by decide +kernel) rfl
theorem nq_in_X5 : Cond.instantiable RX5 8 ∈ fm_T := fm_mem 203 (by decide +kernel) rfl
theorem nq_it_X5 : Cond.initialized RX5 ∈ fm_T := fm_mem 50 (by decide +kernel) rfl
theorem nq_y_X5 : nw_Y yX5_init cX5_init 5 4 := ⟨nq_it_X5, fm_mem 205 (by decide +kernel) rfl, fm_mem 206 (by decide +kernel) rfl, rfl, by decide, by decide, by decide +kernel⟩
theorem nq_d_X5 : ∀ j, j < 8 → defaultValue (tyX5 j) = vp_V [.null, .null, .null, .null, .null, .null, .null, fm_I 0] j := fun j hj => by
  rcases (show j = 0 ∨ j = 1 ∨ j = 2 ∨ j = 3 ∨ j = 4 ∨ j = 5 ∨ j = 6 ∨ j = 7 by omega) with rfl | rfl | rfl | rfl | rfl | rfl | rfl | rfl <;> first | rfl | exact congrArg Value.int fm_z0
theorem nq_f_X5_0 : nw_Wf RX5 5 0 := ⟨RX5, TX5, 8, .object "FilmWhole$Script", rfl, rfl, rfl, by decide +kernel, fun a => ⟨rfl, rfl⟩⟩
theorem nq_f_X5_1 : nw_Wf RX5 5 1 := ⟨RX5, TX5, 8, .array (.object "FilmWhole$Reel"), rfl, rfl, rfl, by decide +kernel, fun a => ⟨rfl, rfl⟩⟩
theorem nq_f_X5_2 : nw_Wf RX5 5 2 := ⟨RX5, TX5, 8, .array .int, rfl, rfl, rfl, by decide +kernel, fun a => ⟨rfl, rfl⟩⟩
theorem nq_f_X5_3 : nw_Wf RX5 5 3 := ⟨RX5, TX5, 8, .object "FilmWhole$Lining", rfl, rfl, rfl, by decide +kernel, fun a => ⟨rfl, rfl⟩⟩
theorem nq_f_X5_4 : nw_Wf RX5 5 4 := ⟨RX5, TX5, 8, .array (.array .int), rfl, rfl, rfl, by decide +kernel, fun a => ⟨rfl, rfl⟩⟩
theorem nq_f_X5_5 : nw_Wf RX5 5 5 := ⟨RX5, TX5, 8, .array (.array .int), rfl, rfl, rfl, by decide +kernel, fun a => ⟨rfl, rfl⟩⟩
theorem nq_f_X5_6 : nw_Wf RX5 5 6 := ⟨RX5, TX5, 8, .array .int, rfl, rfl, rfl, by decide +kernel, fun a => ⟨rfl, rfl⟩⟩
theorem nq_ml_X6 : Cond.methodLink RX6 3 objectInit ∈ fm_T := fm_mem 158 (by decide +kernel) rfl
theorem nq_in_X6 : Cond.instantiable RX6 4 ∈ fm_T := fm_mem 154 (by decide +kernel) rfl
theorem nq_it_X6 : Cond.initialized RX6 ∈ fm_T := fm_mem 48 (by decide +kernel) rfl
theorem nq_y_X6 : nw_Y yX6_init cX6_init 1 0 := ⟨nq_it_X6, fm_mem 156 (by decide +kernel) rfl, fm_mem 157 (by decide +kernel) rfl, rfl, by decide, by decide, by decide +kernel⟩
theorem nq_d_X6 : ∀ j, j < 4 → defaultValue (tyX6 j) = vp_V [.null, .null, .null, fm_I 0] j := fun j hj => by
  rcases (show j = 0 ∨ j = 1 ∨ j = 2 ∨ j = 3 by omega) with rfl | rfl | rfl | rfl <;> first | rfl | exact congrArg Value.int fm_z0
theorem nq_f_X6_0 : nw_Wf RX6 6 0 := ⟨RX6, TX6, 4, .array .int, rfl, rfl, rfl, by decide +kernel, fun a => ⟨rfl, rfl⟩⟩
theorem nq_f_X6_1 : nw_Wf RX6 6 1 := ⟨RX6, TX6, 4, .array .int, rfl, rfl, rfl, by decide +kernel, fun a => ⟨rfl, rfl⟩⟩
theorem nq_f_X6_2 : nw_Wf RX6 6 2 := ⟨RX6, TX6, 4, .array .int, rfl, rfl, rfl, by decide +kernel, fun a => ⟨rfl, rfl⟩⟩
theorem nq_ml_X8 : Cond.methodLink RX8 3 objectInit ∈ fm_T := fm_mem 61 (by decide +kernel) rfl
theorem nq_in_X8 : Cond.instantiable RX8 9 ∈ fm_T := fm_mem 57 (by decide +kernel) rfl
theorem nq_it_X8 : Cond.initialized RX8 ∈ fm_T := fm_mem 43 (by decide +kernel) rfl
theorem nq_y_X8 : nw_Y yX8_init cX8_init 2 0 := ⟨nq_it_X8, fm_mem 59 (by decide +kernel) rfl, fm_mem 60 (by decide +kernel) rfl, rfl, by decide, by decide, by decide +kernel⟩
theorem nq_d_X8 : ∀ j, j < 9 → defaultValue (tyX8 j) = vp_V [.null, fm_I 0, .null, .null, .null, .null, .null, .null, .null] j := fun j hj => by
  rcases (show j = 0 ∨ j = 1 ∨ j = 2 ∨ j = 3 ∨ j = 4 ∨ j = 5 ∨ j = 6 ∨ j = 7 ∨ j = 8 by omega) with rfl | rfl | rfl | rfl | rfl | rfl | rfl | rfl | rfl <;> first | rfl | exact congrArg Value.int fm_z0
theorem nq_f_X8_0 : nw_Wf RX8 7 0 := ⟨RX8, TX8, 9, .array (.object "FilmWhole$Reel"), rfl, rfl, rfl, by decide +kernel, fun a => ⟨rfl, rfl⟩⟩
theorem nq_f_X8_2 : nw_Wf RX8 7 2 := ⟨RX8, TX8, 9, .object "FilmWhole$Script", rfl, rfl, rfl, by decide +kernel, fun a => ⟨rfl, rfl⟩⟩
theorem nq_f_X8_3 : nw_Wf RX8 7 3 := ⟨RX8, TX8, 9, .array .int, rfl, rfl, rfl, by decide +kernel, fun a => ⟨rfl, rfl⟩⟩
theorem nq_f_X8_4 : nw_Wf RX8 7 4 := ⟨RX8, TX8, 9, .object "FilmWhole$Lining", rfl, rfl, rfl, by decide +kernel, fun a => ⟨rfl, rfl⟩⟩
theorem nq_f_X8_5 : nw_Wf RX8 7 5 := ⟨RX8, TX8, 9, .object "FilmWhole$Sources", rfl, rfl, rfl, by decide +kernel, fun a => ⟨rfl, rfl⟩⟩
theorem nq_f_X8_6 : nw_Wf RX8 7 6 := ⟨RX8, TX8, 9, .object "FilmWhole$Notes", rfl, rfl, rfl, by decide +kernel, fun a => ⟨rfl, rfl⟩⟩
theorem nq_f_X8_7 : nw_Wf RX8 7 7 := ⟨RX8, TX8, 9, .object "FilmWhole$Cues", rfl, rfl, rfl, by decide +kernel, fun a => ⟨rfl, rfl⟩⟩
theorem nq_f_X8_8 : nw_Wf RX8 7 8 := ⟨RX8, TX8, 9, .object "FilmWhole$Steps", rfl, rfl, rfl, by decide +kernel, fun a => ⟨rfl, rfl⟩⟩
theorem nq_ml_X9 : Cond.methodLink RX9 1 objectInit ∈ fm_T := fm_mem 581 (by decide +kernel) rfl
theorem nq_in_X9 : Cond.instantiable RX9 25 ∈ fm_T := fm_mem 577 (by decide +kernel) rfl
theorem nq_it_X9 : Cond.initialized RX9 ∈ fm_T := fm_mem 51 (by decide +kernel) rfl
theorem nq_y_X9 : nw_Y yX9_init cX9_init 1 0 := ⟨nq_it_X9, fm_mem 579 (by decide +kernel) rfl, fm_mem 580 (by decide +kernel) rfl, rfl, by decide, by decide, by decide +kernel⟩
theorem nq_d_X9 : ∀ j, j < 25 → defaultValue (tyX9 j) = vp_V [fm_I 0, .null, .null, .null, .null, .null, .null, fm_I 0, .null, .null, .null, .null, fm_I 0, .null, .null, .null, fm_I 0, .null, .null, .null, .null, .null, .null, .null, .null] j := fun j hj => by
  rcases (show j = 0 ∨ j = 1 ∨ j = 2 ∨ j = 3 ∨ j = 4 ∨ j = 5 ∨ j = 6 ∨ j = 7 ∨ j = 8 ∨ j = 9 ∨ j = 10 ∨ j = 11 ∨ j = 12 ∨ j = 13 ∨ j = 14 ∨ j = 15 ∨ j = 16 ∨ j = 17 ∨ j = 18 ∨ j = 19 ∨ j = 20 ∨ j = 21 ∨ j = 22 ∨ j = 23 ∨ j = 24 by omega) with rfl | rfl | rfl | rfl | rfl | rfl | rfl | rfl | rfl | rfl | rfl | rfl | rfl | rfl | rfl | rfl | rfl | rfl | rfl | rfl | rfl | rfl | rfl | rfl | rfl <;> first | rfl | exact congrArg Value.int fm_z0
theorem nq_f_X9_1 : nw_Wf RX9 8 1 := ⟨RX9, TX9, 25, .array .int, rfl, rfl, rfl, by decide +kernel, fun a => ⟨rfl, rfl⟩⟩
theorem nq_f_X9_2 : nw_Wf RX9 8 2 := ⟨RX9, TX9, 25, .array .int, rfl, rfl, rfl, by decide +kernel, fun a => ⟨rfl, rfl⟩⟩
theorem nq_f_X9_3 : nw_Wf RX9 8 3 := ⟨RX9, TX9, 25, .array .int, rfl, rfl, rfl, by decide +kernel, fun a => ⟨rfl, rfl⟩⟩
theorem nq_f_X9_4 : nw_Wf RX9 8 4 := ⟨RX9, TX9, 25, .array .int, rfl, rfl, rfl, by decide +kernel, fun a => ⟨rfl, rfl⟩⟩
theorem nq_f_X9_5 : nw_Wf RX9 8 5 := ⟨RX9, TX9, 25, .array .int, rfl, rfl, rfl, by decide +kernel, fun a => ⟨rfl, rfl⟩⟩
theorem nq_f_X9_6 : nw_Wf RX9 8 6 := ⟨RX9, TX9, 25, .array .int, rfl, rfl, rfl, by decide +kernel, fun a => ⟨rfl, rfl⟩⟩
theorem nq_f_X9_8 : nw_Wf RX9 8 8 := ⟨RX9, TX9, 25, .array .int, rfl, rfl, rfl, by decide +kernel, fun a => ⟨rfl, rfl⟩⟩
theorem nq_f_X9_9 : nw_Wf RX9 8 9 := ⟨RX9, TX9, 25, .array .int, rfl, rfl, rfl, by decide +kernel, fun a => ⟨rfl, rfl⟩⟩
theorem nq_f_X9_10 : nw_Wf RX9 8 10 := ⟨RX9, TX9, 25, .array .int, rfl, rfl, rfl, by decide +kernel, fun a => ⟨rfl, rfl⟩⟩
theorem nq_f_X9_11 : nw_Wf RX9 8 11 := ⟨RX9, TX9, 25, .array .int, rfl, rfl, rfl, by decide +kernel, fun a => ⟨rfl, rfl⟩⟩
theorem nq_f_X9_13 : nw_Wf RX9 8 13 := ⟨RX9, TX9, 25, .array .int, rfl, rfl, rfl, by decide +kernel, fun a => ⟨rfl, rfl⟩⟩
theorem nq_f_X9_14 : nw_Wf RX9 8 14 := ⟨RX9, TX9, 25, .array .int, rfl, rfl, rfl, by decide +kernel, fun a => ⟨rfl, rfl⟩⟩
theorem nq_f_X9_15 : nw_Wf RX9 8 15 := ⟨RX9, TX9, 25, .array .int, rfl, rfl, rfl, by decide +kernel, fun a => ⟨rfl, rfl⟩⟩
theorem nq_f_X9_17 : nw_Wf RX9 8 17 := ⟨RX9, TX9, 25, .array .int, rfl, rfl, rfl, by decide +kernel, fun a => ⟨rfl, rfl⟩⟩
theorem nq_f_X9_18 : nw_Wf RX9 8 18 := ⟨RX9, TX9, 25, .array .int, rfl, rfl, rfl, by decide +kernel, fun a => ⟨rfl, rfl⟩⟩
theorem nq_f_X9_19 : nw_Wf RX9 8 19 := ⟨RX9, TX9, 25, .array .int, rfl, rfl, rfl, by decide +kernel, fun a => ⟨rfl, rfl⟩⟩
theorem nq_f_X9_20 : nw_Wf RX9 8 20 := ⟨RX9, TX9, 25, .array .int, rfl, rfl, rfl, by decide +kernel, fun a => ⟨rfl, rfl⟩⟩
theorem nq_f_X9_21 : nw_Wf RX9 8 21 := ⟨RX9, TX9, 25, .array .int, rfl, rfl, rfl, by decide +kernel, fun a => ⟨rfl, rfl⟩⟩
theorem nq_f_X9_22 : nw_Wf RX9 8 22 := ⟨RX9, TX9, 25, .array .int, rfl, rfl, rfl, by decide +kernel, fun a => ⟨rfl, rfl⟩⟩
theorem nq_f_X9_23 : nw_Wf RX9 8 23 := ⟨RX9, TX9, 25, .array .int, rfl, rfl, rfl, by decide +kernel, fun a => ⟨rfl, rfl⟩⟩
theorem nq_f_X9_24 : nw_Wf RX9 8 24 := ⟨RX9, TX9, 25, .array .int, rfl, rfl, rfl, by decide +kernel, fun a => ⟨rfl, rfl⟩⟩
theorem nq_cl_X1_9 : Cond.classLink RX1 9 ("[" ++ (FieldType.array .int).toString) ∈ fm_T := fm_mem 94 (by decide +kernel) rfl
theorem nq_cl_X0_9 : Cond.classLink RX0 9 ("[" ++ (FieldType.array .int).toString) ∈ fm_T := fm_mem 134 (by decide +kernel) rfl
theorem nq_cl_X5_9 : Cond.classLink RX5 9 ("[" ++ (FieldType.array .int).toString) ∈ fm_T := fm_mem 208 (by decide +kernel) rfl
def nwF_X4 (ct : Nat → ClassId) (b : Nat) : Nat → va_E := fun i => if i = 0 then .inr (4, [.ref (b + 1), .ref (b + 2), fm_I 0]) else .inl (ct 0, 40, .inl (fun _ => Int32.ofInt 0))
set_option maxRecDepth 20000 in
set_option maxHeartbeats 4000000 in
theorem k_X4_init {l : Launch} {D : va_G} {ct : Nat → ClassId} {b : Nat} : nw_Met l D ct yX4_init cX4_init 1 ({ frames := 1, cells := 2, slots := 80, locals := 12 } : Room) [.ref b] b (.inr (4, [.null, .null, fm_I 0])) 3 (fun H => va_P D vwCl (nw_ws b 3 (nwF_X4 ct b)) H) := by
  refine nw_start (own := RX4) (by decide) rfl rfl (Nat.le_of_ble_eq_true rfl) [some (.ref b)] rfl (fun Γ hI => ?_)
  refine nw_aload dX4_init_0 rfl ?_
  refine nw_obj dX4_init_1 nq_ml_X4 nq_oi nq_oc (Nat.le_of_ble_eq_true rfl) (Nat.le_of_ble_eq_true rfl) ?_
  refine nw_aload dX4_init_4 rfl ?_
  refine nw_bipush (by decide) dX4_init_5 ?_
  refine nw_newI (N := 40) 2 1 40 rfl rfl rfl rfl (by decide) dX4_init_7 nq_ai (Nat.le_of_ble_eq_true rfl) (Nat.le_of_ble_eq_true rfl) ?_
  refine nw_putF (i := 0) (fs := [.null, .null, fm_I 0]) hI dX4_init_9 fd_X4_9 nq_f_X4_0 (by decide) rfl (Nat.le_of_ble_eq_true rfl) ?_
  refine nw_aload dX4_init_12 rfl ?_
  refine nw_bipush (by decide) dX4_init_13 ?_
  refine nw_newI (N := 40) 3 2 80 rfl rfl rfl rfl (by decide) dX4_init_15 nq_ai (Nat.le_of_ble_eq_true rfl) (Nat.le_of_ble_eq_true rfl) ?_
  refine nw_putF (i := 0) (fs := [.ref (b + 1), .null, fm_I 0]) hI dX4_init_17 fd_X4_15 nq_f_X4_1 (by decide) rfl (Nat.le_of_ble_eq_true rfl) ?_
  refine nw_vret hI rfl dX4_init_20 (fun H hP => nw_cong hP (fun i hi => ?_))
  simp only [nw_up, nw_mn, nwF_X4]
  (repeat' split) <;> first | rfl | omega
def nwF_X3 (ct : Nat → ClassId) (b : Nat) : Nat → va_E := fun i => if i = 0 then .inr (3, [.ref (b + 1), .ref (b + 2), .ref (b + 3), fm_I 0]) else .inl (ct 0, 40, .inl (fun _ => Int32.ofInt 0))
set_option maxRecDepth 20000 in
set_option maxHeartbeats 4000000 in
theorem k_X3_init {l : Launch} {D : va_G} {ct : Nat → ClassId} {b : Nat} : nw_Met l D ct yX3_init cX3_init 1 ({ frames := 1, cells := 3, slots := 120, locals := 12 } : Room) [.ref b] b (.inr (3, [.null, .null, .null, fm_I 0])) 4 (fun H => va_P D vwCl (nw_ws b 4 (nwF_X3 ct b)) H) := by
  refine nw_start (own := RX3) (by decide) rfl rfl (Nat.le_of_ble_eq_true rfl) [some (.ref b)] rfl (fun Γ hI => ?_)
  refine nw_aload dX3_init_0 rfl ?_
  refine nw_obj dX3_init_1 nq_ml_X3 nq_oi nq_oc (Nat.le_of_ble_eq_true rfl) (Nat.le_of_ble_eq_true rfl) ?_
  refine nw_aload dX3_init_4 rfl ?_
  refine nw_bipush (by decide) dX3_init_5 ?_
  refine nw_newI (N := 40) 2 1 40 rfl rfl rfl rfl (by decide) dX3_init_7 nq_ai (Nat.le_of_ble_eq_true rfl) (Nat.le_of_ble_eq_true rfl) ?_
  refine nw_putF (i := 0) (fs := [.null, .null, .null, fm_I 0]) hI dX3_init_9 fd_X3_9 nq_f_X3_0 (by decide) rfl (Nat.le_of_ble_eq_true rfl) ?_
  refine nw_aload dX3_init_12 rfl ?_
  refine nw_bipush (by decide) dX3_init_13 ?_
  refine nw_newI (N := 40) 3 2 80 rfl rfl rfl rfl (by decide) dX3_init_15 nq_ai (Nat.le_of_ble_eq_true rfl) (Nat.le_of_ble_eq_true rfl) ?_
  refine nw_putF (i := 0) (fs := [.ref (b + 1), .null, .null, fm_I 0]) hI dX3_init_17 fd_X3_15 nq_f_X3_1 (by decide) rfl (Nat.le_of_ble_eq_true rfl) ?_
  refine nw_aload dX3_init_20 rfl ?_
  refine nw_bipush (by decide) dX3_init_21 ?_
  refine nw_newI (N := 40) 4 3 120 rfl rfl rfl rfl (by decide) dX3_init_23 nq_ai (Nat.le_of_ble_eq_true rfl) (Nat.le_of_ble_eq_true rfl) ?_
  refine nw_putF (i := 0) (fs := [.ref (b + 1), .ref (b + 2), .null, fm_I 0]) hI dX3_init_25 fd_X3_18 nq_f_X3_2 (by decide) rfl (Nat.le_of_ble_eq_true rfl) ?_
  refine nw_vret hI rfl dX3_init_28 (fun H hP => nw_cong hP (fun i hi => ?_))
  simp only [nw_up, nw_mn, nwF_X3]
  (repeat' split) <;> first | rfl | omega
def nwF_X2 (ct : Nat → ClassId) (b : Nat) : Nat → va_E := fun i => if i = 0 then .inr (2, [.ref (b + 1), .ref (b + 2), .ref (b + 3), .ref (b + 4), fm_I 0]) else .inl (ct 0, 12, .inl (fun _ => Int32.ofInt 0))
set_option maxRecDepth 20000 in
set_option maxHeartbeats 4000000 in
theorem k_X2_init {l : Launch} {D : va_G} {ct : Nat → ClassId} {b : Nat} : nw_Met l D ct yX2_init cX2_init 1 ({ frames := 1, cells := 4, slots := 48, locals := 12 } : Room) [.ref b] b (.inr (2, [.null, .null, .null, .null, fm_I 0])) 5 (fun H => va_P D vwCl (nw_ws b 5 (nwF_X2 ct b)) H) := by
  refine nw_start (own := RX2) (by decide) rfl rfl (Nat.le_of_ble_eq_true rfl) [some (.ref b)] rfl (fun Γ hI => ?_)
  refine nw_aload dX2_init_0 rfl ?_
  refine nw_obj dX2_init_1 nq_ml_X2 nq_oi nq_oc (Nat.le_of_ble_eq_true rfl) (Nat.le_of_ble_eq_true rfl) ?_
  refine nw_aload dX2_init_4 rfl ?_
  refine nw_bipush (by decide) dX2_init_5 ?_
  refine nw_newI (N := 12) 2 1 12 rfl rfl rfl rfl (by decide) dX2_init_7 nq_ai (Nat.le_of_ble_eq_true rfl) (Nat.le_of_ble_eq_true rfl) ?_
  refine nw_putF (i := 0) (fs := [.null, .null, .null, .null, fm_I 0]) hI dX2_init_9 fd_X2_9 nq_f_X2_0 (by decide) rfl (Nat.le_of_ble_eq_true rfl) ?_
  refine nw_aload dX2_init_12 rfl ?_
  refine nw_bipush (by decide) dX2_init_13 ?_
  refine nw_newI (N := 12) 3 2 24 rfl rfl rfl rfl (by decide) dX2_init_15 nq_ai (Nat.le_of_ble_eq_true rfl) (Nat.le_of_ble_eq_true rfl) ?_
  refine nw_putF (i := 0) (fs := [.ref (b + 1), .null, .null, .null, fm_I 0]) hI dX2_init_17 fd_X2_15 nq_f_X2_1 (by decide) rfl (Nat.le_of_ble_eq_true rfl) ?_
  refine nw_aload dX2_init_20 rfl ?_
  refine nw_bipush (by decide) dX2_init_21 ?_
  refine nw_newI (N := 12) 4 3 36 rfl rfl rfl rfl (by decide) dX2_init_23 nq_ai (Nat.le_of_ble_eq_true rfl) (Nat.le_of_ble_eq_true rfl) ?_
  refine nw_putF (i := 0) (fs := [.ref (b + 1), .ref (b + 2), .null, .null, fm_I 0]) hI dX2_init_25 fd_X2_18 nq_f_X2_2 (by decide) rfl (Nat.le_of_ble_eq_true rfl) ?_
  refine nw_aload dX2_init_28 rfl ?_
  refine nw_bipush (by decide) dX2_init_29 ?_
  refine nw_newI (N := 12) 5 4 48 rfl rfl rfl rfl (by decide) dX2_init_31 nq_ai (Nat.le_of_ble_eq_true rfl) (Nat.le_of_ble_eq_true rfl) ?_
  refine nw_putF (i := 0) (fs := [.ref (b + 1), .ref (b + 2), .ref (b + 3), .null, fm_I 0]) hI dX2_init_33 fd_X2_21 nq_f_X2_3 (by decide) rfl (Nat.le_of_ble_eq_true rfl) ?_
  refine nw_vret hI rfl dX2_init_36 (fun H hP => nw_cong hP (fun i hi => ?_))
  simp only [nw_up, nw_mn, nwF_X2]
  (repeat' split) <;> first | rfl | omega
def nwF_X6 (ct : Nat → ClassId) (b : Nat) : Nat → va_E := fun i => if i = 0 then .inr (6, [.ref (b + 1), .ref (b + 2), .ref (b + 3), fm_I 0]) else .inl (ct 0, 30, .inl (fun _ => Int32.ofInt 0))
set_option maxRecDepth 20000 in
set_option maxHeartbeats 4000000 in
theorem k_X6_init {l : Launch} {D : va_G} {ct : Nat → ClassId} {b : Nat} : nw_Met l D ct yX6_init cX6_init 1 ({ frames := 1, cells := 3, slots := 90, locals := 12 } : Room) [.ref b] b (.inr (6, [.null, .null, .null, fm_I 0])) 4 (fun H => va_P D vwCl (nw_ws b 4 (nwF_X6 ct b)) H) := by
  refine nw_start (own := RX6) (by decide) rfl rfl (Nat.le_of_ble_eq_true rfl) [some (.ref b)] rfl (fun Γ hI => ?_)
  refine nw_aload dX6_init_0 rfl ?_
  refine nw_obj dX6_init_1 nq_ml_X6 nq_oi nq_oc (Nat.le_of_ble_eq_true rfl) (Nat.le_of_ble_eq_true rfl) ?_
  refine nw_aload dX6_init_4 rfl ?_
  refine nw_bipush (by decide) dX6_init_5 ?_
  refine nw_newI (N := 30) 2 1 30 rfl rfl rfl rfl (by decide) dX6_init_7 nq_ai (Nat.le_of_ble_eq_true rfl) (Nat.le_of_ble_eq_true rfl) ?_
  refine nw_putF (i := 0) (fs := [.null, .null, .null, fm_I 0]) hI dX6_init_9 fd_X6_9 nq_f_X6_0 (by decide) rfl (Nat.le_of_ble_eq_true rfl) ?_
  refine nw_aload dX6_init_12 rfl ?_
  refine nw_bipush (by decide) dX6_init_13 ?_
  refine nw_newI (N := 30) 3 2 60 rfl rfl rfl rfl (by decide) dX6_init_15 nq_ai (Nat.le_of_ble_eq_true rfl) (Nat.le_of_ble_eq_true rfl) ?_
  refine nw_putF (i := 0) (fs := [.ref (b + 1), .null, .null, fm_I 0]) hI dX6_init_17 fd_X6_15 nq_f_X6_1 (by decide) rfl (Nat.le_of_ble_eq_true rfl) ?_
  refine nw_aload dX6_init_20 rfl ?_
  refine nw_bipush (by decide) dX6_init_21 ?_
  refine nw_newI (N := 30) 4 3 90 rfl rfl rfl rfl (by decide) dX6_init_23 nq_ai (Nat.le_of_ble_eq_true rfl) (Nat.le_of_ble_eq_true rfl) ?_
  refine nw_putF (i := 0) (fs := [.ref (b + 1), .ref (b + 2), .null, fm_I 0]) hI dX6_init_25 fd_X6_18 nq_f_X6_2 (by decide) rfl (Nat.le_of_ble_eq_true rfl) ?_
  refine nw_vret hI rfl dX6_init_28 (fun H hP => nw_cong hP (fun i hi => ?_))
  simp only [nw_up, nw_mn, nwF_X6]
  (repeat' split) <;> first | rfl | omega
def nwF_X1 (ct : Nat → ClassId) (b : Nat) : Nat → va_E := fun i => if i = 0 then .inr (1, [.ref (b + 1), .ref (b + 43)]) else if i = 1 then .inl (ct 2, 41, .inr (.inr (.inr (.inr (fun j => some (b + (1 + 1 + j))))))) else if i = 43 then .inl (ct 0, 40, .inl (fun _ => Int32.ofInt 0)) else .inl (ct 0, 41, .inl (fun _ => Int32.ofInt 0))
set_option maxRecDepth 20000 in
set_option maxHeartbeats 4000000 in
theorem k_X1_init {l : Launch} {D : va_G} {ct : Nat → ClassId} {b : Nat} : nw_Met l D ct yX1_init cX1_init 1 ({ frames := 1, cells := 43, slots := 1762, locals := 12 } : Room) [.ref b] b (.inr (1, [.null, .null])) 44 (fun H => va_P D vwCl (nw_ws b 44 (nwF_X1 ct b)) H) := by
  refine nw_start (own := RX1) (by decide) rfl rfl (Nat.le_of_ble_eq_true rfl) [some (.ref b)] rfl (fun Γ hI => ?_)
  refine nw_aload dX1_init_0 rfl ?_
  refine nw_obj dX1_init_1 nq_ml_X1 nq_oi nq_oc (Nat.le_of_ble_eq_true rfl) (Nat.le_of_ble_eq_true rfl) ?_
  refine nw_aload dX1_init_4 rfl ?_
  refine nw_bipush (by decide) dX1_init_5 ?_
  refine nw_bipush (by decide) dX1_init_7 ?_
  refine nw_mna (N := 41) (K := 41) 43 42 1722 rfl rfl rfl rfl rfl (by decide) (by decide) dX1_init_9 nq_cl_X1_9 nq_ai (Nat.le_of_ble_eq_true rfl) (Nat.le_of_ble_eq_true rfl) ?_
  refine nw_putF (i := 0) (fs := [.null, .null]) hI dX1_init_13 fd_X1_11 nq_f_X1_0 (by decide) rfl (Nat.le_of_ble_eq_true rfl) ?_
  refine nw_aload dX1_init_16 rfl ?_
  refine nw_bipush (by decide) dX1_init_17 ?_
  refine nw_newI (N := 40) 44 43 1762 rfl rfl rfl rfl (by decide) dX1_init_19 nq_ai (Nat.le_of_ble_eq_true rfl) (Nat.le_of_ble_eq_true rfl) ?_
  refine nw_putF (i := 0) (fs := [.ref (b + 1), .null]) hI dX1_init_21 fd_X1_16 nq_f_X1_1 (by decide) rfl (Nat.le_of_ble_eq_true rfl) ?_
  refine nw_vret hI rfl dX1_init_24 (fun H hP => nw_cong hP (fun i hi => ?_))
  simp only [nw_up, nw_mn, nwF_X1]
  (repeat' split) <;> first | rfl | omega
def nwF_X0 (ct : Nat → ClassId) (b : Nat) : Nat → va_E := fun i => if i = 0 then .inr (0, [.ref (b + 1), .ref (b + 8), .ref (b + 9), .ref (b + 10), fm_I 0]) else if i = 1 then .inl (ct 2, 6, .inr (.inr (.inr (.inr (fun j => some (b + (1 + 1 + j))))))) else if i = 8 then .inl (ct 0, 64, .inl (fun _ => Int32.ofInt 0)) else if i = 9 then .inl (ct 0, 64, .inl (fun _ => Int32.ofInt 0)) else .inl (ct 0, 6, .inl (fun _ => Int32.ofInt 0))
set_option maxRecDepth 20000 in
set_option maxHeartbeats 4000000 in
theorem k_X0_init {l : Launch} {D : va_G} {ct : Nat → ClassId} {b : Nat} : nw_Met l D ct yX0_init cX0_init 1 ({ frames := 1, cells := 10, slots := 176, locals := 12 } : Room) [.ref b] b (.inr (0, [.null, .null, .null, .null, fm_I 0])) 11 (fun H => va_P D vwCl (nw_ws b 11 (nwF_X0 ct b)) H) := by
  refine nw_start (own := RX0) (by decide) rfl rfl (Nat.le_of_ble_eq_true rfl) [some (.ref b)] rfl (fun Γ hI => ?_)
  refine nw_aload dX0_init_0 rfl ?_
  refine nw_obj dX0_init_1 nq_ml_X0 nq_oi nq_oc (Nat.le_of_ble_eq_true rfl) (Nat.le_of_ble_eq_true rfl) ?_
  refine nw_aload dX0_init_4 rfl ?_
  refine nw_bipush (by decide) dX0_init_5 ?_
  refine nw_bipush (by decide) dX0_init_7 ?_
  refine nw_mna (N := 6) (K := 6) 8 7 42 rfl rfl rfl rfl rfl (by decide) (by decide) dX0_init_9 nq_cl_X0_9 nq_ai (Nat.le_of_ble_eq_true rfl) (Nat.le_of_ble_eq_true rfl) ?_
  refine nw_putF (i := 0) (fs := [.null, .null, .null, .null, fm_I 0]) hI dX0_init_13 fd_X0_11 nq_f_X0_0 (by decide) rfl (Nat.le_of_ble_eq_true rfl) ?_
  refine nw_aload dX0_init_16 rfl ?_
  refine nw_bipush (by decide) dX0_init_17 ?_
  refine nw_newI (N := 64) 9 8 106 rfl rfl rfl rfl (by decide) dX0_init_19 nq_ai (Nat.le_of_ble_eq_true rfl) (Nat.le_of_ble_eq_true rfl) ?_
  refine nw_putF (i := 0) (fs := [.ref (b + 1), .null, .null, .null, fm_I 0]) hI dX0_init_21 fd_X0_16 nq_f_X0_1 (by decide) rfl (Nat.le_of_ble_eq_true rfl) ?_
  refine nw_aload dX0_init_24 rfl ?_
  refine nw_bipush (by decide) dX0_init_25 ?_
  refine nw_newI (N := 64) 10 9 170 rfl rfl rfl rfl (by decide) dX0_init_27 nq_ai (Nat.le_of_ble_eq_true rfl) (Nat.le_of_ble_eq_true rfl) ?_
  refine nw_putF (i := 0) (fs := [.ref (b + 1), .ref (b + 8), .null, .null, fm_I 0]) hI dX0_init_29 fd_X0_20 nq_f_X0_2 (by decide) rfl (Nat.le_of_ble_eq_true rfl) ?_
  refine nw_aload dX0_init_32 rfl ?_
  refine nw_bipush (by decide) dX0_init_33 ?_
  refine nw_newI (N := 6) 11 10 176 rfl rfl rfl rfl (by decide) dX0_init_35 nq_ai (Nat.le_of_ble_eq_true rfl) (Nat.le_of_ble_eq_true rfl) ?_
  refine nw_putF (i := 0) (fs := [.ref (b + 1), .ref (b + 8), .ref (b + 9), .null, fm_I 0]) hI dX0_init_37 fd_X0_23 nq_f_X0_3 (by decide) rfl (Nat.le_of_ble_eq_true rfl) ?_
  refine nw_vret hI rfl dX0_init_40 (fun H hP => nw_cong hP (fun i hi => ?_))
  simp only [nw_up, nw_mn, nwF_X0]
  (repeat' split) <;> first | rfl | omega
def nwF_X5 (ct : Nat → ClassId) (b : Nat) (r1 r2 r3 r4 : Nat) : Nat → va_E := fun i => if i = 0 then .inr (5, [.ref r1, .ref r2, .ref r3, .ref r4, .ref (b + 1), .ref (b + 8), .ref (b + 49), fm_I 0]) else if i = 1 then .inl (ct 2, 6, .inr (.inr (.inr (.inr (fun j => some (b + (1 + 1 + j))))))) else if i < 8 then .inl (ct 0, 40, .inl (fun _ => Int32.ofInt 0)) else if i = 8 then .inl (ct 2, 40, .inr (.inr (.inr (.inr (fun j => some (b + (8 + 1 + j))))))) else if i = 49 then .inl (ct 0, 40, .inl (fun _ => Int32.ofInt 0)) else .inl (ct 0, 7, .inl (fun _ => Int32.ofInt 0))
set_option maxRecDepth 20000 in
set_option maxHeartbeats 4000000 in
theorem k_X5_init {l : Launch} {D : va_G} {ct : Nat → ClassId} {b r1 r2 r3 r4 : Nat} : nw_Met l D ct yX5_init cX5_init 5 ({ frames := 1, cells := 49, slots := 606, locals := 12 } : Room) [.ref b, .ref r1, .ref r2, .ref r3, .ref r4] b (.inr (5, [.null, .null, .null, .null, .null, .null, .null, fm_I 0])) 50 (fun H => va_P D vwCl (nw_ws b 50 (nwF_X5 ct b r1 r2 r3 r4)) H) := by
  refine nw_start (own := RX5) (by decide) rfl rfl (Nat.le_of_ble_eq_true rfl) [some (.ref b), some (.ref r1), some (.ref r2), some (.ref r3), some (.ref r4)] rfl (fun Γ hI => ?_)
  refine nw_aload dX5_init_0 rfl ?_
  refine nw_obj dX5_init_1 nq_ml_X5 nq_oi nq_oc (Nat.le_of_ble_eq_true rfl) (Nat.le_of_ble_eq_true rfl) ?_
  refine nw_aload dX5_init_4 rfl ?_
  refine nw_bipush (by decide) dX5_init_5 ?_
  refine nw_bipush (by decide) dX5_init_7 ?_
  refine nw_mna (N := 6) (K := 40) 8 7 246 rfl rfl rfl rfl rfl (by decide) (by decide) dX5_init_9 nq_cl_X5_9 nq_ai (Nat.le_of_ble_eq_true rfl) (Nat.le_of_ble_eq_true rfl) ?_
  refine nw_putF (i := 0) (fs := [.null, .null, .null, .null, .null, .null, .null, fm_I 0]) hI dX5_init_13 fd_X5_11 nq_f_X5_4 (by decide) rfl (Nat.le_of_ble_eq_true rfl) ?_
  refine nw_aload dX5_init_16 rfl ?_
  refine nw_bipush (by decide) dX5_init_17 ?_
  refine nw_bipush (by decide) dX5_init_19 ?_
  refine nw_mna (N := 40) (K := 7) 49 48 566 rfl rfl rfl rfl rfl (by decide) (by decide) dX5_init_21 nq_cl_X5_9 nq_ai (Nat.le_of_ble_eq_true rfl) (Nat.le_of_ble_eq_true rfl) ?_
  refine nw_putF (i := 0) (fs := [.null, .null, .null, .null, .ref (b + 1), .null, .null, fm_I 0]) hI dX5_init_25 fd_X5_16 nq_f_X5_5 (by decide) rfl (Nat.le_of_ble_eq_true rfl) ?_
  refine nw_aload dX5_init_28 rfl ?_
  refine nw_bipush (by decide) dX5_init_29 ?_
  refine nw_newI (N := 40) 50 49 606 rfl rfl rfl rfl (by decide) dX5_init_31 nq_ai (Nat.le_of_ble_eq_true rfl) (Nat.le_of_ble_eq_true rfl) ?_
  refine nw_putF (i := 0) (fs := [.null, .null, .null, .null, .ref (b + 1), .ref (b + 8), .null, fm_I 0]) hI dX5_init_33 fd_X5_19 nq_f_X5_6 (by decide) rfl (Nat.le_of_ble_eq_true rfl) ?_
  refine nw_aload dX5_init_36 rfl ?_
  refine nw_aload dX5_init_37 rfl ?_
  refine nw_putF (i := 0) (fs := [.null, .null, .null, .null, .ref (b + 1), .ref (b + 8), .ref (b + 49), fm_I 0]) hI dX5_init_38 fd_X5_23 nq_f_X5_0 (by decide) rfl (Nat.le_of_ble_eq_true rfl) ?_
  refine nw_aload dX5_init_41 rfl ?_
  refine nw_aload dX5_init_42 rfl ?_
  refine nw_putF (i := 0) (fs := [.ref r1, .null, .null, .null, .ref (b + 1), .ref (b + 8), .ref (b + 49), fm_I 0]) hI dX5_init_43 fd_X5_27 nq_f_X5_1 (by decide) rfl (Nat.le_of_ble_eq_true rfl) ?_
  refine nw_aload dX5_init_46 rfl ?_
  refine nw_aload dX5_init_47 rfl ?_
  refine nw_putF (i := 0) (fs := [.ref r1, .ref r2, .null, .null, .ref (b + 1), .ref (b + 8), .ref (b + 49), fm_I 0]) hI dX5_init_48 fd_X5_31 nq_f_X5_2 (by decide) rfl (Nat.le_of_ble_eq_true rfl) ?_
  refine nw_aload dX5_init_51 rfl ?_
  refine nw_aload2 dX5_init_52 rfl ?_
  refine nw_putF (i := 0) (fs := [.ref r1, .ref r2, .ref r3, .null, .ref (b + 1), .ref (b + 8), .ref (b + 49), fm_I 0]) hI dX5_init_54 fd_X5_34 nq_f_X5_3 (by decide) rfl (Nat.le_of_ble_eq_true rfl) ?_
  refine nw_vret hI rfl dX5_init_57 (fun H hP => nw_cong hP (fun i hi => ?_))
  simp only [nw_up, nw_mn, nwF_X5]
  (repeat' split) <;> first | rfl | omega
