/-! words: every good word of the tables; by its place -/
def fm_T : List Cond := lw_tbl.filter goodWord
theorem fm_mem {w : Cond} (i : Nat) (h : lw_tbl[i]? = some w) (hg : goodWord w = true) : w ∈ fm_T := List.mem_filter.mpr ⟨List.mem_of_getElem? h, hg⟩
theorem fm_good : GoodIn fm_T fm_T := fun w hw => ⟨hw, good_of_word (List.mem_filter.mp hw).2⟩
/-- a field of class number ci by pool index: number j -/
def fm_Fd (own : String) (ci j idx : Nat) : Prop := ∃ (C : String) (T : u_T) (N : Nat) (ty : Nat → FieldType), vwCl[ci]? = some (C, T, N) ∧ j < N ∧ (∀ w ∈ u_ws C T N, w ∈ fm_T) ∧ Cond.fieldLink own idx (T j).1 (T j).2.1 (T j).2.2.1 ∈ fm_T ∧ (∀ k, k < N → parseFieldDescriptor (T k).2.2.1 = some (ty k)) ∧ ∀ a, a < N → ∀ b, b < N → a ≠ b → (T a).2.1 ≠ (T b).2.1
def fm_Wr (ci j : Nat) : Prop := ∃ (C : String) (T : u_T) (N : Nat), vwCl[ci]? = some (C, T, N) ∧ (T j).2.2.2 = false ∧ parseFieldDescriptor (T j).2.2.1 = some .int
def fm_CV (own : String) (idx ci : Nat) (y : MethodName) (cc : ByteArray) (n : Nat) (ret : Option FieldType) (np : Nat) : Prop := (Cond.methodLink own idx y ∈ fm_T ∧ Cond.instanceMethod y ∈ fm_T ∧ Cond.selects y.cls y y ∈ fm_T ∧ Cond.initialized y.cls ∈ fm_T ∧ Cond.code y cc n ret ∈ fm_T) ∧ (∃ (T : u_T) (N : Nat), vwCl[ci]? = some (y.cls, T, N)) ∧ y.cls ≠ "java/lang/invoke/MethodHandle" ∧ y.cls ≠ "java/lang/invoke/VarHandle" ∧ (parseMethodDescriptor y.desc).map (fun d => d.parameters.length) = some np
def fm_CS (own : String) (idx : Nat) (y : MethodName) (cc : ByteArray) (n : Nat) (ret : Option FieldType) (np : Nat) : Prop := (Cond.methodLink own idx y ∈ fm_T ∧ Cond.static y ∈ fm_T ∧ Cond.initialized y.cls ∈ fm_T ∧ Cond.code y cc n ret ∈ fm_T) ∧ y.cls ≠ "java/lang/invoke/MethodHandle" ∧ y.cls ≠ "java/lang/invoke/VarHandle" ∧ (parseMethodDescriptor y.desc).map (fun d => d.parameters.length) = some np
set_option maxRecDepth 100000 in
theorem us_X0 : ∀ w ∈ u_ws RX0 TX0 5, w ∈ fm_T := by decide +kernel
set_option maxRecDepth 100000 in
theorem us_X1 : ∀ w ∈ u_ws RX1 TX1 2, w ∈ fm_T := by decide +kernel
set_option maxRecDepth 100000 in
theorem us_X2 : ∀ w ∈ u_ws RX2 TX2 5, w ∈ fm_T := by decide +kernel
set_option maxRecDepth 100000 in
theorem us_X3 : ∀ w ∈ u_ws RX3 TX3 4, w ∈ fm_T := by decide +kernel
set_option maxRecDepth 100000 in
theorem us_X4 : ∀ w ∈ u_ws RX4 TX4 3, w ∈ fm_T := by decide +kernel
set_option maxRecDepth 100000 in
theorem us_X5 : ∀ w ∈ u_ws RX5 TX5 8, w ∈ fm_T := by decide +kernel
set_option maxRecDepth 100000 in
theorem us_X6 : ∀ w ∈ u_ws RX6 TX6 4, w ∈ fm_T := by decide +kernel
set_option maxRecDepth 100000 in
theorem us_X8 : ∀ w ∈ u_ws RX8 TX8 9, w ∈ fm_T := by decide +kernel
set_option maxRecDepth 100000 in
theorem us_X9 : ∀ w ∈ u_ws RX9 TX9 25, w ∈ fm_T := by decide +kernel
theorem fd_X4_9 : fm_Fd RX4 4 0 9 := ⟨RX4, TX4, 3, tyX4, rfl, by decide, us_X4, fm_mem 72 (by decide +kernel) rfl, tyX4_ok, nmX4⟩
theorem fd_X5_38 : fm_Fd RX5 4 0 38 := ⟨RX4, TX4, 3, tyX4, rfl, by decide, us_X4, fm_mem 73 (by decide +kernel) rfl, tyX4_ok, nmX4⟩
theorem fd_X8_221 : fm_Fd RX8 4 0 221 := ⟨RX4, TX4, 3, tyX4, rfl, by decide, us_X4, fm_mem 74 (by decide +kernel) rfl, tyX4_ok, nmX4⟩
theorem fd_X4_15 : fm_Fd RX4 4 1 15 := ⟨RX4, TX4, 3, tyX4, rfl, by decide, us_X4, fm_mem 75 (by decide +kernel) rfl, tyX4_ok, nmX4⟩
theorem fd_X5_105 : fm_Fd RX5 4 1 105 := ⟨RX4, TX4, 3, tyX4, rfl, by decide, us_X4, fm_mem 76 (by decide +kernel) rfl, tyX4_ok, nmX4⟩
theorem fd_X4_18 : fm_Fd RX4 4 2 18 := ⟨RX4, TX4, 3, tyX4, rfl, by decide, us_X4, fm_mem 77 (by decide +kernel) rfl, tyX4_ok, nmX4⟩
theorem fd_X5_43 : fm_Fd RX5 4 2 43 := ⟨RX4, TX4, 3, tyX4, rfl, by decide, us_X4, fm_mem 78 (by decide +kernel) rfl, tyX4_ok, nmX4⟩
theorem fd_X8_121 : fm_Fd RX8 4 2 121 := ⟨RX4, TX4, 3, tyX4, rfl, by decide, us_X4, fm_mem 79 (by decide +kernel) rfl, tyX4_ok, nmX4⟩
theorem fd_X1_11 : fm_Fd RX1 1 0 11 := ⟨RX1, TX1, 2, tyX1, rfl, by decide, us_X1, fm_mem 96 (by decide +kernel) rfl, tyX1_ok, nmX1⟩
theorem fd_X1_16 : fm_Fd RX1 1 1 16 := ⟨RX1, TX1, 2, tyX1, rfl, by decide, us_X1, fm_mem 97 (by decide +kernel) rfl, tyX1_ok, nmX1⟩
theorem fd_X5_57 : fm_Fd RX5 1 1 57 := ⟨RX1, TX1, 2, tyX1, rfl, by decide, us_X1, fm_mem 98 (by decide +kernel) rfl, tyX1_ok, nmX1⟩
theorem fd_X8_146 : fm_Fd RX8 1 1 146 := ⟨RX1, TX1, 2, tyX1, rfl, by decide, us_X1, fm_mem 99 (by decide +kernel) rfl, tyX1_ok, nmX1⟩
theorem fd_X2_9 : fm_Fd RX2 2 0 9 := ⟨RX2, TX2, 5, tyX2, rfl, by decide, us_X2, fm_mem 111 (by decide +kernel) rfl, tyX2_ok, nmX2⟩
theorem fd_X2_15 : fm_Fd RX2 2 1 15 := ⟨RX2, TX2, 5, tyX2, rfl, by decide, us_X2, fm_mem 112 (by decide +kernel) rfl, tyX2_ok, nmX2⟩
theorem fd_X2_18 : fm_Fd RX2 2 2 18 := ⟨RX2, TX2, 5, tyX2, rfl, by decide, us_X2, fm_mem 113 (by decide +kernel) rfl, tyX2_ok, nmX2⟩
theorem fd_X2_21 : fm_Fd RX2 2 3 21 := ⟨RX2, TX2, 5, tyX2, rfl, by decide, us_X2, fm_mem 114 (by decide +kernel) rfl, tyX2_ok, nmX2⟩
theorem fd_X2_24 : fm_Fd RX2 2 4 24 := ⟨RX2, TX2, 5, tyX2, rfl, by decide, us_X2, fm_mem 115 (by decide +kernel) rfl, tyX2_ok, nmX2⟩
theorem fd_X8_187 : fm_Fd RX8 2 4 187 := ⟨RX2, TX2, 5, tyX2, rfl, by decide, us_X2, fm_mem 116 (by decide +kernel) rfl, tyX2_ok, nmX2⟩
theorem fd_X0_11 : fm_Fd RX0 0 0 11 := ⟨RX0, TX0, 5, tyX0, rfl, by decide, us_X0, fm_mem 135 (by decide +kernel) rfl, tyX0_ok, nmX0⟩
theorem fd_X0_16 : fm_Fd RX0 0 1 16 := ⟨RX0, TX0, 5, tyX0, rfl, by decide, us_X0, fm_mem 136 (by decide +kernel) rfl, tyX0_ok, nmX0⟩
theorem fd_X0_20 : fm_Fd RX0 0 2 20 := ⟨RX0, TX0, 5, tyX0, rfl, by decide, us_X0, fm_mem 137 (by decide +kernel) rfl, tyX0_ok, nmX0⟩
theorem fd_X0_23 : fm_Fd RX0 0 3 23 := ⟨RX0, TX0, 5, tyX0, rfl, by decide, us_X0, fm_mem 138 (by decide +kernel) rfl, tyX0_ok, nmX0⟩
theorem fd_X8_211 : fm_Fd RX8 0 3 211 := ⟨RX0, TX0, 5, tyX0, rfl, by decide, us_X0, fm_mem 139 (by decide +kernel) rfl, tyX0_ok, nmX0⟩
theorem fd_X0_26 : fm_Fd RX0 0 4 26 := ⟨RX0, TX0, 5, tyX0, rfl, by decide, us_X0, fm_mem 140 (by decide +kernel) rfl, tyX0_ok, nmX0⟩
theorem fd_X8_197 : fm_Fd RX8 0 4 197 := ⟨RX0, TX0, 5, tyX0, rfl, by decide, us_X0, fm_mem 141 (by decide +kernel) rfl, tyX0_ok, nmX0⟩
theorem fd_X6_9 : fm_Fd RX6 6 0 9 := ⟨RX6, TX6, 4, tyX6, rfl, by decide, us_X6, fm_mem 159 (by decide +kernel) rfl, tyX6_ok, nmX6⟩
theorem fd_X8_215 : fm_Fd RX8 6 0 215 := ⟨RX6, TX6, 4, tyX6, rfl, by decide, us_X6, fm_mem 160 (by decide +kernel) rfl, tyX6_ok, nmX6⟩
theorem fd_X6_15 : fm_Fd RX6 6 1 15 := ⟨RX6, TX6, 4, tyX6, rfl, by decide, us_X6, fm_mem 161 (by decide +kernel) rfl, tyX6_ok, nmX6⟩
theorem fd_X8_217 : fm_Fd RX8 6 1 217 := ⟨RX6, TX6, 4, tyX6, rfl, by decide, us_X6, fm_mem 162 (by decide +kernel) rfl, tyX6_ok, nmX6⟩
theorem fd_X6_18 : fm_Fd RX6 6 2 18 := ⟨RX6, TX6, 4, tyX6, rfl, by decide, us_X6, fm_mem 163 (by decide +kernel) rfl, tyX6_ok, nmX6⟩
theorem fd_X8_220 : fm_Fd RX8 6 2 220 := ⟨RX6, TX6, 4, tyX6, rfl, by decide, us_X6, fm_mem 164 (by decide +kernel) rfl, tyX6_ok, nmX6⟩
theorem fd_X6_21 : fm_Fd RX6 6 3 21 := ⟨RX6, TX6, 4, tyX6, rfl, by decide, us_X6, fm_mem 165 (by decide +kernel) rfl, tyX6_ok, nmX6⟩
theorem fd_X8_214 : fm_Fd RX8 6 3 214 := ⟨RX6, TX6, 4, tyX6, rfl, by decide, us_X6, fm_mem 166 (by decide +kernel) rfl, tyX6_ok, nmX6⟩
theorem fd_X3_9 : fm_Fd RX3 3 0 9 := ⟨RX3, TX3, 4, tyX3, rfl, by decide, us_X3, fm_mem 181 (by decide +kernel) rfl, tyX3_ok, nmX3⟩
theorem fd_X5_47 : fm_Fd RX5 3 0 47 := ⟨RX3, TX3, 4, tyX3, rfl, by decide, us_X3, fm_mem 182 (by decide +kernel) rfl, tyX3_ok, nmX3⟩
theorem fd_X8_109 : fm_Fd RX8 3 0 109 := ⟨RX3, TX3, 4, tyX3, rfl, by decide, us_X3, fm_mem 183 (by decide +kernel) rfl, tyX3_ok, nmX3⟩
theorem fd_X3_15 : fm_Fd RX3 3 1 15 := ⟨RX3, TX3, 4, tyX3, rfl, by decide, us_X3, fm_mem 184 (by decide +kernel) rfl, tyX3_ok, nmX3⟩
theorem fd_X8_112 : fm_Fd RX8 3 1 112 := ⟨RX3, TX3, 4, tyX3, rfl, by decide, us_X3, fm_mem 185 (by decide +kernel) rfl, tyX3_ok, nmX3⟩
theorem fd_X5_95 : fm_Fd RX5 3 1 95 := ⟨RX3, TX3, 4, tyX3, rfl, by decide, us_X3, fm_mem 186 (by decide +kernel) rfl, tyX3_ok, nmX3⟩
theorem fd_X3_18 : fm_Fd RX3 3 2 18 := ⟨RX3, TX3, 4, tyX3, rfl, by decide, us_X3, fm_mem 187 (by decide +kernel) rfl, tyX3_ok, nmX3⟩
theorem fd_X8_115 : fm_Fd RX8 3 2 115 := ⟨RX3, TX3, 4, tyX3, rfl, by decide, us_X3, fm_mem 188 (by decide +kernel) rfl, tyX3_ok, nmX3⟩
theorem fd_X5_108 : fm_Fd RX5 3 2 108 := ⟨RX3, TX3, 4, tyX3, rfl, by decide, us_X3, fm_mem 189 (by decide +kernel) rfl, tyX3_ok, nmX3⟩
theorem fd_X3_21 : fm_Fd RX3 3 3 21 := ⟨RX3, TX3, 4, tyX3, rfl, by decide, us_X3, fm_mem 190 (by decide +kernel) rfl, tyX3_ok, nmX3⟩
theorem fd_X5_50 : fm_Fd RX5 3 3 50 := ⟨RX3, TX3, 4, tyX3, rfl, by decide, us_X3, fm_mem 191 (by decide +kernel) rfl, tyX3_ok, nmX3⟩
theorem fd_X8_83 : fm_Fd RX8 3 3 83 := ⟨RX3, TX3, 4, tyX3, rfl, by decide, us_X3, fm_mem 192 (by decide +kernel) rfl, tyX3_ok, nmX3⟩
theorem fd_X5_23 : fm_Fd RX5 5 0 23 := ⟨RX5, TX5, 8, tyX5, rfl, by decide, us_X5, fm_mem 209 (by decide +kernel) rfl, tyX5_ok, nmX5⟩
theorem fd_X5_27 : fm_Fd RX5 5 1 27 := ⟨RX5, TX5, 8, tyX5, rfl, by decide, us_X5, fm_mem 210 (by decide +kernel) rfl, tyX5_ok, nmX5⟩
theorem fd_X5_31 : fm_Fd RX5 5 2 31 := ⟨RX5, TX5, 8, tyX5, rfl, by decide, us_X5, fm_mem 211 (by decide +kernel) rfl, tyX5_ok, nmX5⟩
theorem fd_X5_34 : fm_Fd RX5 5 3 34 := ⟨RX5, TX5, 8, tyX5, rfl, by decide, us_X5, fm_mem 212 (by decide +kernel) rfl, tyX5_ok, nmX5⟩
theorem fd_X5_11 : fm_Fd RX5 5 4 11 := ⟨RX5, TX5, 8, tyX5, rfl, by decide, us_X5, fm_mem 213 (by decide +kernel) rfl, tyX5_ok, nmX5⟩
theorem fd_X8_156 : fm_Fd RX8 5 4 156 := ⟨RX5, TX5, 8, tyX5, rfl, by decide, us_X5, fm_mem 214 (by decide +kernel) rfl, tyX5_ok, nmX5⟩
theorem fd_X5_16 : fm_Fd RX5 5 5 16 := ⟨RX5, TX5, 8, tyX5, rfl, by decide, us_X5, fm_mem 215 (by decide +kernel) rfl, tyX5_ok, nmX5⟩
theorem fd_X5_19 : fm_Fd RX5 5 6 19 := ⟨RX5, TX5, 8, tyX5, rfl, by decide, us_X5, fm_mem 216 (by decide +kernel) rfl, tyX5_ok, nmX5⟩
theorem fd_X8_166 : fm_Fd RX8 5 6 166 := ⟨RX5, TX5, 8, tyX5, rfl, by decide, us_X5, fm_mem 217 (by decide +kernel) rfl, tyX5_ok, nmX5⟩
theorem fd_X5_73 : fm_Fd RX5 5 7 73 := ⟨RX5, TX5, 8, tyX5, rfl, by decide, us_X5, fm_mem 218 (by decide +kernel) rfl, tyX5_ok, nmX5⟩
theorem fd_X8_163 : fm_Fd RX8 5 7 163 := ⟨RX5, TX5, 8, tyX5, rfl, by decide, us_X5, fm_mem 219 (by decide +kernel) rfl, tyX5_ok, nmX5⟩
theorem fd_X8_11 : fm_Fd RX8 7 0 11 := ⟨RX8, TX8, 9, tyX8, rfl, by decide, us_X8, fm_mem 237 (by decide +kernel) rfl, tyX8_ok, nmX8⟩
theorem fd_X8_64 : fm_Fd RX8 7 1 64 := ⟨RX8, TX8, 9, tyX8, rfl, by decide, us_X8, fm_mem 238 (by decide +kernel) rfl, tyX8_ok, nmX8⟩
theorem fd_X8_18 : fm_Fd RX8 7 2 18 := ⟨RX8, TX8, 9, tyX8, rfl, by decide, us_X8, fm_mem 239 (by decide +kernel) rfl, tyX8_ok, nmX8⟩
theorem fd_X8_22 : fm_Fd RX8 7 3 22 := ⟨RX8, TX8, 9, tyX8, rfl, by decide, us_X8, fm_mem 240 (by decide +kernel) rfl, tyX8_ok, nmX8⟩
theorem fd_X8_29 : fm_Fd RX8 7 4 29 := ⟨RX8, TX8, 9, tyX8, rfl, by decide, us_X8, fm_mem 241 (by decide +kernel) rfl, tyX8_ok, nmX8⟩
theorem fd_X8_60 : fm_Fd RX8 7 5 60 := ⟨RX8, TX8, 9, tyX8, rfl, by decide, us_X8, fm_mem 242 (by decide +kernel) rfl, tyX8_ok, nmX8⟩
theorem fd_X8_36 : fm_Fd RX8 7 6 36 := ⟨RX8, TX8, 9, tyX8, rfl, by decide, us_X8, fm_mem 243 (by decide +kernel) rfl, tyX8_ok, nmX8⟩
theorem fd_X8_43 : fm_Fd RX8 7 7 43 := ⟨RX8, TX8, 9, tyX8, rfl, by decide, us_X8, fm_mem 244 (by decide +kernel) rfl, tyX8_ok, nmX8⟩
theorem fd_X8_50 : fm_Fd RX8 7 8 50 := ⟨RX8, TX8, 9, tyX8, rfl, by decide, us_X8, fm_mem 245 (by decide +kernel) rfl, tyX8_ok, nmX8⟩
theorem fd_X9_73 : fm_Fd RX9 8 0 73 := ⟨RX9, TX9, 25, tyX9, rfl, by decide, us_X9, fm_mem 582 (by decide +kernel) rfl, tyX9_ok, nmX9⟩
theorem fd_X9_7 : fm_Fd RX9 8 1 7 := ⟨RX9, TX9, 25, tyX9, rfl, by decide, us_X9, fm_mem 583 (by decide +kernel) rfl, tyX9_ok, nmX9⟩
theorem fd_X9_13 : fm_Fd RX9 8 2 13 := ⟨RX9, TX9, 25, tyX9, rfl, by decide, us_X9, fm_mem 584 (by decide +kernel) rfl, tyX9_ok, nmX9⟩
theorem fd_X9_16 : fm_Fd RX9 8 3 16 := ⟨RX9, TX9, 25, tyX9, rfl, by decide, us_X9, fm_mem 585 (by decide +kernel) rfl, tyX9_ok, nmX9⟩
theorem fd_X9_19 : fm_Fd RX9 8 4 19 := ⟨RX9, TX9, 25, tyX9, rfl, by decide, us_X9, fm_mem 586 (by decide +kernel) rfl, tyX9_ok, nmX9⟩
theorem fd_X9_22 : fm_Fd RX9 8 5 22 := ⟨RX9, TX9, 25, tyX9, rfl, by decide, us_X9, fm_mem 587 (by decide +kernel) rfl, tyX9_ok, nmX9⟩
theorem fd_X9_25 : fm_Fd RX9 8 6 25 := ⟨RX9, TX9, 25, tyX9, rfl, by decide, us_X9, fm_mem 588 (by decide +kernel) rfl, tyX9_ok, nmX9⟩
theorem fd_X9_140 : fm_Fd RX9 8 7 140 := ⟨RX9, TX9, 25, tyX9, rfl, by decide, us_X9, fm_mem 589 (by decide +kernel) rfl, tyX9_ok, nmX9⟩
theorem fd_X9_28 : fm_Fd RX9 8 8 28 := ⟨RX9, TX9, 25, tyX9, rfl, by decide, us_X9, fm_mem 590 (by decide +kernel) rfl, tyX9_ok, nmX9⟩
theorem fd_X9_31 : fm_Fd RX9 8 9 31 := ⟨RX9, TX9, 25, tyX9, rfl, by decide, us_X9, fm_mem 591 (by decide +kernel) rfl, tyX9_ok, nmX9⟩
theorem fd_X9_34 : fm_Fd RX9 8 10 34 := ⟨RX9, TX9, 25, tyX9, rfl, by decide, us_X9, fm_mem 592 (by decide +kernel) rfl, tyX9_ok, nmX9⟩
theorem fd_X9_37 : fm_Fd RX9 8 11 37 := ⟨RX9, TX9, 25, tyX9, rfl, by decide, us_X9, fm_mem 593 (by decide +kernel) rfl, tyX9_ok, nmX9⟩
theorem fd_X9_146 : fm_Fd RX9 8 12 146 := ⟨RX9, TX9, 25, tyX9, rfl, by decide, us_X9, fm_mem 594 (by decide +kernel) rfl, tyX9_ok, nmX9⟩
theorem fd_X9_40 : fm_Fd RX9 8 13 40 := ⟨RX9, TX9, 25, tyX9, rfl, by decide, us_X9, fm_mem 595 (by decide +kernel) rfl, tyX9_ok, nmX9⟩
theorem fd_X9_43 : fm_Fd RX9 8 14 43 := ⟨RX9, TX9, 25, tyX9, rfl, by decide, us_X9, fm_mem 596 (by decide +kernel) rfl, tyX9_ok, nmX9⟩
theorem fd_X9_46 : fm_Fd RX9 8 15 46 := ⟨RX9, TX9, 25, tyX9, rfl, by decide, us_X9, fm_mem 597 (by decide +kernel) rfl, tyX9_ok, nmX9⟩
theorem fd_X9_95 : fm_Fd RX9 8 16 95 := ⟨RX9, TX9, 25, tyX9, rfl, by decide, us_X9, fm_mem 598 (by decide +kernel) rfl, tyX9_ok, nmX9⟩
theorem fd_X9_49 : fm_Fd RX9 8 17 49 := ⟨RX9, TX9, 25, tyX9, rfl, by decide, us_X9, fm_mem 599 (by decide +kernel) rfl, tyX9_ok, nmX9⟩
theorem fd_X9_52 : fm_Fd RX9 8 18 52 := ⟨RX9, TX9, 25, tyX9, rfl, by decide, us_X9, fm_mem 600 (by decide +kernel) rfl, tyX9_ok, nmX9⟩
theorem fd_X9_55 : fm_Fd RX9 8 19 55 := ⟨RX9, TX9, 25, tyX9, rfl, by decide, us_X9, fm_mem 601 (by decide +kernel) rfl, tyX9_ok, nmX9⟩
theorem fd_X9_58 : fm_Fd RX9 8 20 58 := ⟨RX9, TX9, 25, tyX9, rfl, by decide, us_X9, fm_mem 602 (by decide +kernel) rfl, tyX9_ok, nmX9⟩
theorem fd_X9_61 : fm_Fd RX9 8 21 61 := ⟨RX9, TX9, 25, tyX9, rfl, by decide, us_X9, fm_mem 603 (by decide +kernel) rfl, tyX9_ok, nmX9⟩
theorem fd_X9_64 : fm_Fd RX9 8 22 64 := ⟨RX9, TX9, 25, tyX9, rfl, by decide, us_X9, fm_mem 604 (by decide +kernel) rfl, tyX9_ok, nmX9⟩
theorem fd_X9_67 : fm_Fd RX9 8 23 67 := ⟨RX9, TX9, 25, tyX9, rfl, by decide, us_X9, fm_mem 605 (by decide +kernel) rfl, tyX9_ok, nmX9⟩
theorem fd_X9_70 : fm_Fd RX9 8 24 70 := ⟨RX9, TX9, 25, tyX9, rfl, by decide, us_X9, fm_mem 606 (by decide +kernel) rfl, tyX9_ok, nmX9⟩
theorem wr_X0_4 : fm_Wr 0 4 := ⟨RX0, TX0, 5, rfl, rfl, by decide +kernel⟩
theorem wr_X2_4 : fm_Wr 2 4 := ⟨RX2, TX2, 5, rfl, rfl, by decide +kernel⟩
theorem wr_X3_3 : fm_Wr 3 3 := ⟨RX3, TX3, 4, rfl, rfl, by decide +kernel⟩
theorem wr_X4_2 : fm_Wr 4 2 := ⟨RX4, TX4, 3, rfl, rfl, by decide +kernel⟩
theorem wr_X5_7 : fm_Wr 5 7 := ⟨RX5, TX5, 8, rfl, rfl, by decide +kernel⟩
theorem wr_X6_3 : fm_Wr 6 3 := ⟨RX6, TX6, 4, rfl, rfl, by decide +kernel⟩
theorem wr_X8_1 : fm_Wr 7 1 := ⟨RX8, TX8, 9, rfl, rfl, by decide +kernel⟩
theorem wr_X9_0 : fm_Wr 8 0 := ⟨RX9, TX9, 25, rfl, rfl, by decide +kernel⟩
theorem wr_X9_7 : fm_Wr 8 7 := ⟨RX9, TX9, 25, rfl, rfl, by decide +kernel⟩
theorem wr_X9_12 : fm_Wr 8 12 := ⟨RX9, TX9, 25, rfl, rfl, by decide +kernel⟩
theorem wr_X9_16 : fm_Wr 8 16 := ⟨RX9, TX9, 25, rfl, rfl, by decide +kernel⟩
set_option maxRecDepth 100000 in
theorem cl_L_13 : fm_CV RL 13 7 yX8_copy cX8_copy 1 (some .int) 0 := ⟨⟨fm_mem 265 (by decide +kernel) rfl, fm_mem 266 (by decide +kernel) rfl, fm_mem 267 (by decide +kernel) rfl, fm_mem 43 (by decide +kernel) rfl, fm_mem 268 (by rfl) rfl⟩, ⟨TX8, 9, rfl⟩, by decide +kernel, by decide +kernel, by decide +kernel⟩
set_option maxRecDepth 100000 in
theorem cl_L_18 : fm_CV RL 18 7 yX8_frame cX8_frame 6 (some .int) 4 := ⟨⟨fm_mem 269 (by decide +kernel) rfl, fm_mem 270 (by decide +kernel) rfl, fm_mem 271 (by decide +kernel) rfl, fm_mem 43 (by decide +kernel) rfl, fm_mem 272 (by rfl) rfl⟩, ⟨TX8, 9, rfl⟩, by decide +kernel, by decide +kernel, by decide +kernel⟩
set_option maxRecDepth 100000 in
theorem cl_X8_68 : fm_CV RX8 68 7 yX8_isCopy cX8_isCopy 2 (some .boolean) 1 := ⟨⟨fm_mem 273 (by decide +kernel) rfl, fm_mem 275 (by decide +kernel) rfl, fm_mem 0 (by decide +kernel) rfl, fm_mem 43 (by decide +kernel) rfl, fm_mem 276 (by rfl) rfl⟩, ⟨TX8, 9, rfl⟩, by decide +kernel, by decide +kernel, by decide +kernel⟩
set_option maxRecDepth 100000 in
theorem cl_X8_72 : fm_CS RX8 72 yX8_isWithin cX8_isWithin 2 (some .boolean) 2 := ⟨⟨fm_mem 277 (by decide +kernel) rfl, fm_mem 278 (by decide +kernel) rfl, fm_mem 43 (by decide +kernel) rfl, fm_mem 279 (by rfl) rfl⟩, by decide +kernel, by decide +kernel, by decide +kernel⟩
set_option maxRecDepth 100000 in
theorem cl_X8_76 : fm_CV RX8 76 3 yX3_hasRoomFor cX3_hasRoomFor 2 (some .boolean) 1 := ⟨⟨fm_mem 280 (by decide +kernel) rfl, fm_mem 281 (by decide +kernel) rfl, fm_mem 282 (by decide +kernel) rfl, fm_mem 49 (by decide +kernel) rfl, fm_mem 283 (by rfl) rfl⟩, ⟨TX3, 4, rfl⟩, by decide +kernel, by decide +kernel, by decide +kernel⟩
set_option maxRecDepth 100000 in
theorem cl_X8_79 : fm_CV RX8 79 3 yX3_append cX3_append 4 none 3 := ⟨⟨fm_mem 284 (by decide +kernel) rfl, fm_mem 285 (by decide +kernel) rfl, fm_mem 286 (by decide +kernel) rfl, fm_mem 49 (by decide +kernel) rfl, fm_mem 287 (by rfl) rfl⟩, ⟨TX3, 4, rfl⟩, by decide +kernel, by decide +kernel, by decide +kernel⟩
set_option maxRecDepth 100000 in
theorem cl_L_25 : fm_CV RL 25 7 yX8_frames cX8_frames 8 (some .int) 3 := ⟨⟨fm_mem 288 (by decide +kernel) rfl, fm_mem 289 (by decide +kernel) rfl, fm_mem 290 (by decide +kernel) rfl, fm_mem 43 (by decide +kernel) rfl, fm_mem 291 (by rfl) rfl⟩, ⟨TX8, 9, rfl⟩, by decide +kernel, by decide +kernel, by decide +kernel⟩
set_option maxRecDepth 100000 in
theorem cl_X8_86 : fm_CS RX8 86 yX7_isTold cX7_isTold 5 (some .boolean) 2 := ⟨⟨fm_mem 292 (by decide +kernel) rfl, fm_mem 293 (by decide +kernel) rfl, fm_mem 52 (by decide +kernel) rfl, fm_mem 294 (by rfl) rfl⟩, by decide +kernel, by decide +kernel, by decide +kernel⟩
set_option maxRecDepth 100000 in
theorem cl_X7_9 : fm_CS RX7 9 yX7_bitsOf cX7_bitsOf 4 (some .int) 3 := ⟨⟨fm_mem 295 (by decide +kernel) rfl, fm_mem 296 (by decide +kernel) rfl, fm_mem 52 (by decide +kernel) rfl, fm_mem 297 (by rfl) rfl⟩, by decide +kernel, by decide +kernel, by decide +kernel⟩
set_option maxRecDepth 100000 in
theorem cl_X7_15 : fm_CS RX7 15 yX7_wearIn cX7_wearIn 1 (some .int) 1 := ⟨⟨fm_mem 299 (by decide +kernel) rfl, fm_mem 300 (by decide +kernel) rfl, fm_mem 52 (by decide +kernel) rfl, fm_mem 301 (by rfl) rfl⟩, by decide +kernel, by decide +kernel, by decide +kernel⟩
set_option maxRecDepth 100000 in
theorem cl_X8_92 : fm_CS RX8 92 yX7_bitsOf cX7_bitsOf 4 (some .int) 3 := ⟨⟨fm_mem 302 (by decide +kernel) rfl, fm_mem 296 (by decide +kernel) rfl, fm_mem 52 (by decide +kernel) rfl, fm_mem 297 (by rfl) rfl⟩, by decide +kernel, by decide +kernel, by decide +kernel⟩
set_option maxRecDepth 100000 in
theorem cl_X8_96 : fm_CS RX8 96 yX7_markIn cX7_markIn 1 (some .int) 1 := ⟨⟨fm_mem 303 (by decide +kernel) rfl, fm_mem 304 (by decide +kernel) rfl, fm_mem 52 (by decide +kernel) rfl, fm_mem 305 (by rfl) rfl⟩, by decide +kernel, by decide +kernel, by decide +kernel⟩
set_option maxRecDepth 100000 in
theorem cl_X8_100 : fm_CS RX8 100 yX7_wearIn cX7_wearIn 1 (some .int) 1 := ⟨⟨fm_mem 306 (by decide +kernel) rfl, fm_mem 300 (by decide +kernel) rfl, fm_mem 52 (by decide +kernel) rfl, fm_mem 301 (by rfl) rfl⟩, by decide +kernel, by decide +kernel, by decide +kernel⟩
set_option maxRecDepth 100000 in
theorem cl_X8_103 : fm_CS RX8 103 yX7_cameraIn cX7_cameraIn 1 (some .int) 1 := ⟨⟨fm_mem 307 (by decide +kernel) rfl, fm_mem 308 (by decide +kernel) rfl, fm_mem 52 (by decide +kernel) rfl, fm_mem 309 (by rfl) rfl⟩, by decide +kernel, by decide +kernel, by decide +kernel⟩
set_option maxRecDepth 100000 in
theorem cl_L_30 : fm_CV RL 30 7 yX8_at cX8_at 5 (some .int) 3 := ⟨⟨fm_mem 310 (by decide +kernel) rfl, fm_mem 311 (by decide +kernel) rfl, fm_mem 312 (by decide +kernel) rfl, fm_mem 43 (by decide +kernel) rfl, fm_mem 313 (by rfl) rfl⟩, ⟨TX8, 9, rfl⟩, by decide +kernel, by decide +kernel, by decide +kernel⟩
set_option maxRecDepth 100000 in
theorem cl_X8_106 : fm_CV RX8 106 7 yX8_isFrame cX8_isFrame 3 (some .boolean) 2 := ⟨⟨fm_mem 314 (by decide +kernel) rfl, fm_mem 316 (by decide +kernel) rfl, fm_mem 1 (by decide +kernel) rfl, fm_mem 43 (by decide +kernel) rfl, fm_mem 317 (by rfl) rfl⟩, ⟨TX8, 9, rfl⟩, by decide +kernel, by decide +kernel, by decide +kernel⟩
set_option maxRecDepth 100000 in
theorem cl_L_35 : fm_CV RL 35 7 yX8_wear cX8_wear 5 (some .int) 3 := ⟨⟨fm_mem 318 (by decide +kernel) rfl, fm_mem 319 (by decide +kernel) rfl, fm_mem 320 (by decide +kernel) rfl, fm_mem 43 (by decide +kernel) rfl, fm_mem 321 (by rfl) rfl⟩, ⟨TX8, 9, rfl⟩, by decide +kernel, by decide +kernel, by decide +kernel⟩
set_option maxRecDepth 100000 in
theorem cl_X8_118 : fm_CV RX8 118 7 yX8_changeWear cX8_changeWear 5 none 3 := ⟨⟨fm_mem 322 (by decide +kernel) rfl, fm_mem 324 (by decide +kernel) rfl, fm_mem 2 (by decide +kernel) rfl, fm_mem 43 (by decide +kernel) rfl, fm_mem 325 (by rfl) rfl⟩, ⟨TX8, 9, rfl⟩, by decide +kernel, by decide +kernel, by decide +kernel⟩
set_option maxRecDepth 100000 in
theorem cl_X8_222 : fm_CV RX8 222 6 yX6_keep cX6_keep 4 none 3 := ⟨⟨fm_mem 326 (by decide +kernel) rfl, fm_mem 327 (by decide +kernel) rfl, fm_mem 328 (by decide +kernel) rfl, fm_mem 48 (by decide +kernel) rfl, fm_mem 329 (by rfl) rfl⟩, ⟨TX6, 4, rfl⟩, by decide +kernel, by decide +kernel, by decide +kernel⟩
set_option maxRecDepth 100000 in
theorem cl_X6_25 : fm_CV RX6 25 6 yX6_dropOldest cX6_dropOldest 1 none 0 := ⟨⟨fm_mem 330 (by decide +kernel) rfl, fm_mem 332 (by decide +kernel) rfl, fm_mem 3 (by decide +kernel) rfl, fm_mem 48 (by decide +kernel) rfl, fm_mem 333 (by rfl) rfl⟩, ⟨TX6, 4, rfl⟩, by decide +kernel, by decide +kernel, by decide +kernel⟩
set_option maxRecDepth 100000 in
theorem cl_L_39 : fm_CV RL 39 7 yX8_place cX8_place 3 (some .int) 2 := ⟨⟨fm_mem 337 (by decide +kernel) rfl, fm_mem 338 (by decide +kernel) rfl, fm_mem 339 (by decide +kernel) rfl, fm_mem 43 (by decide +kernel) rfl, fm_mem 340 (by rfl) rfl⟩, ⟨TX8, 9, rfl⟩, by decide +kernel, by decide +kernel, by decide +kernel⟩
set_option maxRecDepth 100000 in
theorem cl_X8_122 : fm_CV RX8 122 4 yX4_append cX4_append 3 none 2 := ⟨⟨fm_mem 341 (by decide +kernel) rfl, fm_mem 342 (by decide +kernel) rfl, fm_mem 343 (by decide +kernel) rfl, fm_mem 44 (by decide +kernel) rfl, fm_mem 344 (by rfl) rfl⟩, ⟨TX4, 3, rfl⟩, by decide +kernel, by decide +kernel, by decide +kernel⟩
set_option maxRecDepth 100000 in
theorem cl_L_44 : fm_CV RL 44 7 yX8_noScript cX8_noScript 2 (some .int) 0 := ⟨⟨fm_mem 345 (by decide +kernel) rfl, fm_mem 346 (by decide +kernel) rfl, fm_mem 347 (by decide +kernel) rfl, fm_mem 43 (by decide +kernel) rfl, fm_mem 348 (by rfl) rfl⟩, ⟨TX8, 9, rfl⟩, by decide +kernel, by decide +kernel, by decide +kernel⟩
set_option maxRecDepth 100000 in
theorem cl_L_48 : fm_CV RL 48 7 yX8_rule cX8_rule 4 (some .int) 2 := ⟨⟨fm_mem 349 (by decide +kernel) rfl, fm_mem 350 (by decide +kernel) rfl, fm_mem 351 (by decide +kernel) rfl, fm_mem 43 (by decide +kernel) rfl, fm_mem 352 (by rfl) rfl⟩, ⟨TX8, 9, rfl⟩, by decide +kernel, by decide +kernel, by decide +kernel⟩
set_option maxRecDepth 100000 in
theorem cl_L_52 : fm_CV RL 52 7 yX8_line cX8_line 4 (some .int) 3 := ⟨⟨fm_mem 355 (by decide +kernel) rfl, fm_mem 356 (by decide +kernel) rfl, fm_mem 357 (by decide +kernel) rfl, fm_mem 43 (by decide +kernel) rfl, fm_mem 358 (by rfl) rfl⟩, ⟨TX8, 9, rfl⟩, by decide +kernel, by decide +kernel, by decide +kernel⟩
set_option maxRecDepth 100000 in
theorem cl_X8_128 : fm_CV RX8 128 7 yX8_isRow cX8_isRow 2 (some .boolean) 1 := ⟨⟨fm_mem 359 (by decide +kernel) rfl, fm_mem 361 (by decide +kernel) rfl, fm_mem 4 (by decide +kernel) rfl, fm_mem 43 (by decide +kernel) rfl, fm_mem 362 (by rfl) rfl⟩, ⟨TX8, 9, rfl⟩, by decide +kernel, by decide +kernel, by decide +kernel⟩
set_option maxRecDepth 100000 in
theorem cl_X8_131 : fm_CV RX8 131 7 yX8_sizeOfRow cX8_sizeOfRow 2 (some .int) 1 := ⟨⟨fm_mem 363 (by decide +kernel) rfl, fm_mem 365 (by decide +kernel) rfl, fm_mem 5 (by decide +kernel) rfl, fm_mem 43 (by decide +kernel) rfl, fm_mem 366 (by rfl) rfl⟩, ⟨TX8, 9, rfl⟩, by decide +kernel, by decide +kernel, by decide +kernel⟩
set_option maxRecDepth 100000 in
theorem cl_X8_134 : fm_CV RX8 134 7 yX8_marksOfRow cX8_marksOfRow 2 (some (.array .int)) 1 := ⟨⟨fm_mem 367 (by decide +kernel) rfl, fm_mem 369 (by decide +kernel) rfl, fm_mem 6 (by decide +kernel) rfl, fm_mem 43 (by decide +kernel) rfl, fm_mem 370 (by rfl) rfl⟩, ⟨TX8, 9, rfl⟩, by decide +kernel, by decide +kernel, by decide +kernel⟩
set_option maxRecDepth 100000 in
theorem cl_X8_138 : fm_CV RX8 138 1 yX1_lineUp cX1_lineUp 7 none 4 := ⟨⟨fm_mem 371 (by decide +kernel) rfl, fm_mem 372 (by decide +kernel) rfl, fm_mem 373 (by decide +kernel) rfl, fm_mem 45 (by decide +kernel) rfl, fm_mem 374 (by rfl) rfl⟩, ⟨TX1, 2, rfl⟩, by decide +kernel, by decide +kernel, by decide +kernel⟩
set_option maxRecDepth 100000 in
theorem cl_X1_20 : fm_CV RX1 20 1 yX1_fillCosts cX1_fillCosts 10 none 4 := ⟨⟨fm_mem 375 (by decide +kernel) rfl, fm_mem 377 (by decide +kernel) rfl, fm_mem 7 (by decide +kernel) rfl, fm_mem 45 (by decide +kernel) rfl, fm_mem 378 (by rfl) rfl⟩, ⟨TX1, 2, rfl⟩, by decide +kernel, by decide +kernel, by decide +kernel⟩
set_option maxRecDepth 100000 in
theorem cl_X1_32 : fm_CS RX1 32 Lib.Math.min.name Lib.Math.min.code 2 (some .int) 2 := ⟨⟨fm_mem 379 (by decide +kernel) rfl, fm_mem 380 (by decide +kernel) rfl, fm_mem 54 (by decide +kernel) rfl, fm_mem 381 (by rfl) rfl⟩, by decide +kernel, by decide +kernel, by decide +kernel⟩
set_option maxRecDepth 100000 in
theorem cl_X1_38 : fm_CS RX1 38 yX1_pairCost cX1_pairCost 2 (some .int) 2 := ⟨⟨fm_mem 382 (by decide +kernel) rfl, fm_mem 383 (by decide +kernel) rfl, fm_mem 45 (by decide +kernel) rfl, fm_mem 384 (by rfl) rfl⟩, by decide +kernel, by decide +kernel, by decide +kernel⟩
set_option maxRecDepth 100000 in
theorem cl_X1_41 : fm_CS RX1 41 Lib.Math.abs.name Lib.Math.abs.code 1 (some .int) 1 := ⟨⟨fm_mem 385 (by decide +kernel) rfl, fm_mem 386 (by decide +kernel) rfl, fm_mem 54 (by decide +kernel) rfl, fm_mem 387 (by rfl) rfl⟩, by decide +kernel, by decide +kernel, by decide +kernel⟩
set_option maxRecDepth 100000 in
theorem cl_X1_24 : fm_CV RX1 24 1 yX1_canPair cX1_canPair 5 (some .boolean) 4 := ⟨⟨fm_mem 388 (by decide +kernel) rfl, fm_mem 390 (by decide +kernel) rfl, fm_mem 8 (by decide +kernel) rfl, fm_mem 45 (by decide +kernel) rfl, fm_mem 391 (by rfl) rfl⟩, ⟨TX1, 2, rfl⟩, by decide +kernel, by decide +kernel, by decide +kernel⟩
set_option maxRecDepth 100000 in
theorem cl_X1_28 : fm_CV RX1 28 1 yX1_canLeaveSecond cX1_canLeaveSecond 3 (some .boolean) 2 := ⟨⟨fm_mem 392 (by decide +kernel) rfl, fm_mem 394 (by decide +kernel) rfl, fm_mem 9 (by decide +kernel) rfl, fm_mem 45 (by decide +kernel) rfl, fm_mem 395 (by rfl) rfl⟩, ⟨TX1, 2, rfl⟩, by decide +kernel, by decide +kernel, by decide +kernel⟩
set_option maxRecDepth 100000 in
theorem cl_X8_142 : fm_CV RX8 142 1 yX1_cost cX1_cost 1 (some .int) 0 := ⟨⟨fm_mem 396 (by decide +kernel) rfl, fm_mem 397 (by decide +kernel) rfl, fm_mem 398 (by decide +kernel) rfl, fm_mem 45 (by decide +kernel) rfl, fm_mem 399 (by rfl) rfl⟩, ⟨TX1, 2, rfl⟩, by decide +kernel, by decide +kernel, by decide +kernel⟩
set_option maxRecDepth 100000 in
theorem cl_L_56 : fm_CV RL 56 7 yX8_stands cX8_stands 3 (some .int) 2 := ⟨⟨fm_mem 400 (by decide +kernel) rfl, fm_mem 401 (by decide +kernel) rfl, fm_mem 402 (by decide +kernel) rfl, fm_mem 43 (by decide +kernel) rfl, fm_mem 403 (by rfl) rfl⟩, ⟨TX8, 9, rfl⟩, by decide +kernel, by decide +kernel, by decide +kernel⟩
set_option maxRecDepth 100000 in
theorem cl_X8_149 : fm_CV RX8 149 4 yX4_has cX4_has 2 (some .boolean) 1 := ⟨⟨fm_mem 404 (by decide +kernel) rfl, fm_mem 405 (by decide +kernel) rfl, fm_mem 406 (by decide +kernel) rfl, fm_mem 44 (by decide +kernel) rfl, fm_mem 407 (by rfl) rfl⟩, ⟨TX4, 3, rfl⟩, by decide +kernel, by decide +kernel, by decide +kernel⟩
set_option maxRecDepth 100000 in
theorem cl_X8_152 : fm_CV RX8 152 5 yX5_findStanding cX5_findStanding 6 none 1 := ⟨⟨fm_mem 408 (by decide +kernel) rfl, fm_mem 409 (by decide +kernel) rfl, fm_mem 410 (by decide +kernel) rfl, fm_mem 50 (by decide +kernel) rfl, fm_mem 411 (by rfl) rfl⟩, ⟨TX5, 8, rfl⟩, by decide +kernel, by decide +kernel, by decide +kernel⟩
set_option maxRecDepth 100000 in
theorem cl_X5_51 : fm_CV RX5 51 1 yX1_lineUp cX1_lineUp 7 none 4 := ⟨⟨fm_mem 412 (by decide +kernel) rfl, fm_mem 372 (by decide +kernel) rfl, fm_mem 373 (by decide +kernel) rfl, fm_mem 45 (by decide +kernel) rfl, fm_mem 374 (by rfl) rfl⟩, ⟨TX1, 2, rfl⟩, by decide +kernel, by decide +kernel, by decide +kernel⟩
set_option maxRecDepth 100000 in
theorem cl_X5_60 : fm_CS RX5 60 Lib.Math.abs.name Lib.Math.abs.code 1 (some .int) 1 := ⟨⟨fm_mem 413 (by decide +kernel) rfl, fm_mem 386 (by decide +kernel) rfl, fm_mem 54 (by decide +kernel) rfl, fm_mem 387 (by rfl) rfl⟩, by decide +kernel, by decide +kernel, by decide +kernel⟩
set_option maxRecDepth 100000 in
theorem cl_L_60 : fm_CV RL 60 7 yX8_whole cX8_whole 2 (some .int) 1 := ⟨⟨fm_mem 414 (by decide +kernel) rfl, fm_mem 415 (by decide +kernel) rfl, fm_mem 416 (by decide +kernel) rfl, fm_mem 43 (by decide +kernel) rfl, fm_mem 417 (by rfl) rfl⟩, ⟨TX8, 9, rfl⟩, by decide +kernel, by decide +kernel, by decide +kernel⟩
set_option maxRecDepth 100000 in
theorem cl_X8_160 : fm_CV RX8 160 5 yX5_choose cX5_choose 3 none 0 := ⟨⟨fm_mem 418 (by decide +kernel) rfl, fm_mem 419 (by decide +kernel) rfl, fm_mem 420 (by decide +kernel) rfl, fm_mem 50 (by decide +kernel) rfl, fm_mem 421 (by rfl) rfl⟩, ⟨TX5, 8, rfl⟩, by decide +kernel, by decide +kernel, by decide +kernel⟩
set_option maxRecDepth 100000 in
theorem cl_X5_66 : fm_CV RX5 66 5 yX5_findStanding cX5_findStanding 6 none 1 := ⟨⟨fm_mem 422 (by decide +kernel) rfl, fm_mem 409 (by decide +kernel) rfl, fm_mem 410 (by decide +kernel) rfl, fm_mem 50 (by decide +kernel) rfl, fm_mem 411 (by rfl) rfl⟩, ⟨TX5, 8, rfl⟩, by decide +kernel, by decide +kernel, by decide +kernel⟩
set_option maxRecDepth 100000 in
theorem cl_X5_70 : fm_CV RX5 70 5 yX5_fillPrices cX5_fillPrices 3 none 0 := ⟨⟨fm_mem 423 (by decide +kernel) rfl, fm_mem 425 (by decide +kernel) rfl, fm_mem 10 (by decide +kernel) rfl, fm_mem 50 (by decide +kernel) rfl, fm_mem 426 (by rfl) rfl⟩, ⟨TX5, 8, rfl⟩, by decide +kernel, by decide +kernel, by decide +kernel⟩
set_option maxRecDepth 100000 in
theorem cl_X5_87 : fm_CV RX5 87 5 yX5_canBe cX5_canBe 3 (some .boolean) 2 := ⟨⟨fm_mem 427 (by decide +kernel) rfl, fm_mem 429 (by decide +kernel) rfl, fm_mem 11 (by decide +kernel) rfl, fm_mem 50 (by decide +kernel) rfl, fm_mem 430 (by rfl) rfl⟩, ⟨TX5, 8, rfl⟩, by decide +kernel, by decide +kernel, by decide +kernel⟩
set_option maxRecDepth 100000 in
theorem cl_X5_84 : fm_CV RX5 84 5 yX5_ownPrice cX5_ownPrice 3 (some .int) 2 := ⟨⟨fm_mem 431 (by decide +kernel) rfl, fm_mem 433 (by decide +kernel) rfl, fm_mem 12 (by decide +kernel) rfl, fm_mem 50 (by decide +kernel) rfl, fm_mem 434 (by rfl) rfl⟩, ⟨TX5, 8, rfl⟩, by decide +kernel, by decide +kernel, by decide +kernel⟩
set_option maxRecDepth 100000 in
theorem cl_X5_91 : fm_CV RX5 91 5 yX5_leastBehind cX5_leastBehind 5 (some .int) 2 := ⟨⟨fm_mem 435 (by decide +kernel) rfl, fm_mem 437 (by decide +kernel) rfl, fm_mem 13 (by decide +kernel) rfl, fm_mem 50 (by decide +kernel) rfl, fm_mem 438 (by rfl) rfl⟩, ⟨TX5, 8, rfl⟩, by decide +kernel, by decide +kernel, by decide +kernel⟩
set_option maxRecDepth 100000 in
theorem cl_X5_76 : fm_CV RX5 76 5 yX5_bestSource cX5_bestSource 7 (some .int) 2 := ⟨⟨fm_mem 439 (by decide +kernel) rfl, fm_mem 441 (by decide +kernel) rfl, fm_mem 14 (by decide +kernel) rfl, fm_mem 50 (by decide +kernel) rfl, fm_mem 442 (by rfl) rfl⟩, ⟨TX5, 8, rfl⟩, by decide +kernel, by decide +kernel, by decide +kernel⟩
set_option maxRecDepth 100000 in
theorem cl_X5_80 : fm_CV RX5 80 5 yX5_joinPrice cX5_joinPrice 6 (some .int) 3 := ⟨⟨fm_mem 444 (by decide +kernel) rfl, fm_mem 446 (by decide +kernel) rfl, fm_mem 15 (by decide +kernel) rfl, fm_mem 50 (by decide +kernel) rfl, fm_mem 447 (by rfl) rfl⟩, ⟨TX5, 8, rfl⟩, by decide +kernel, by decide +kernel, by decide +kernel⟩
set_option maxRecDepth 100000 in
theorem cl_X5_98 : fm_CV RX5 98 5 yX5_isJoined cX5_isJoined 4 (some .boolean) 3 := ⟨⟨fm_mem 448 (by decide +kernel) rfl, fm_mem 450 (by decide +kernel) rfl, fm_mem 16 (by decide +kernel) rfl, fm_mem 50 (by decide +kernel) rfl, fm_mem 451 (by rfl) rfl⟩, ⟨TX5, 8, rfl⟩, by decide +kernel, by decide +kernel, by decide +kernel⟩
set_option maxRecDepth 100000 in
theorem cl_X5_102 : fm_CV RX5 102 5 yX5_cameraOf cX5_cameraOf 3 (some .int) 2 := ⟨⟨fm_mem 452 (by decide +kernel) rfl, fm_mem 454 (by decide +kernel) rfl, fm_mem 17 (by decide +kernel) rfl, fm_mem 50 (by decide +kernel) rfl, fm_mem 455 (by rfl) rfl⟩, ⟨TX5, 8, rfl⟩, by decide +kernel, by decide +kernel, by decide +kernel⟩
set_option maxRecDepth 100000 in
theorem cl_L_65 : fm_CV RL 65 7 yX8_about cX8_about 4 (some .int) 1 := ⟨⟨fm_mem 456 (by decide +kernel) rfl, fm_mem 457 (by decide +kernel) rfl, fm_mem 458 (by decide +kernel) rfl, fm_mem 43 (by decide +kernel) rfl, fm_mem 459 (by rfl) rfl⟩, ⟨TX8, 9, rfl⟩, by decide +kernel, by decide +kernel, by decide +kernel⟩
set_option maxRecDepth 100000 in
theorem cl_X8_169 : fm_CV RX8 169 7 yX8_isCounted cX8_isCounted 3 (some .boolean) 2 := ⟨⟨fm_mem 460 (by decide +kernel) rfl, fm_mem 462 (by decide +kernel) rfl, fm_mem 18 (by decide +kernel) rfl, fm_mem 43 (by decide +kernel) rfl, fm_mem 463 (by rfl) rfl⟩, ⟨TX8, 9, rfl⟩, by decide +kernel, by decide +kernel, by decide +kernel⟩
set_option maxRecDepth 100000 in
theorem cl_X8_225 : fm_CV RX8 225 5 yX5_changesCopy cX5_changesCopy 2 (some .boolean) 1 := ⟨⟨fm_mem 464 (by decide +kernel) rfl, fm_mem 465 (by decide +kernel) rfl, fm_mem 466 (by decide +kernel) rfl, fm_mem 50 (by decide +kernel) rfl, fm_mem 467 (by rfl) rfl⟩, ⟨TX5, 8, rfl⟩, by decide +kernel, by decide +kernel, by decide +kernel⟩
set_option maxRecDepth 100000 in
theorem cl_X8_228 : fm_CV RX8 228 5 yX5_changesCamera cX5_changesCamera 2 (some .boolean) 1 := ⟨⟨fm_mem 468 (by decide +kernel) rfl, fm_mem 469 (by decide +kernel) rfl, fm_mem 470 (by decide +kernel) rfl, fm_mem 50 (by decide +kernel) rfl, fm_mem 471 (by rfl) rfl⟩, ⟨TX5, 8, rfl⟩, by decide +kernel, by decide +kernel, by decide +kernel⟩
set_option maxRecDepth 100000 in
theorem cl_L_69 : fm_CV RL 69 7 yX8_mend cX8_mend 3 (some .int) 1 := ⟨⟨fm_mem 472 (by decide +kernel) rfl, fm_mem 473 (by decide +kernel) rfl, fm_mem 474 (by decide +kernel) rfl, fm_mem 43 (by decide +kernel) rfl, fm_mem 475 (by rfl) rfl⟩, ⟨TX8, 9, rfl⟩, by decide +kernel, by decide +kernel, by decide +kernel⟩
set_option maxRecDepth 100000 in
theorem cl_X8_172 : fm_CV RX8 172 5 yX5_canBeMended cX5_canBeMended 2 (some .boolean) 1 := ⟨⟨fm_mem 476 (by decide +kernel) rfl, fm_mem 477 (by decide +kernel) rfl, fm_mem 478 (by decide +kernel) rfl, fm_mem 50 (by decide +kernel) rfl, fm_mem 479 (by rfl) rfl⟩, ⟨TX5, 8, rfl⟩, by decide +kernel, by decide +kernel, by decide +kernel⟩
set_option maxRecDepth 100000 in
theorem cl_X5_111 : fm_CV RX5 111 5 yX5_mends cX5_mends 3 (some .boolean) 2 := ⟨⟨fm_mem 480 (by decide +kernel) rfl, fm_mem 482 (by decide +kernel) rfl, fm_mem 19 (by decide +kernel) rfl, fm_mem 50 (by decide +kernel) rfl, fm_mem 483 (by rfl) rfl⟩, ⟨TX5, 8, rfl⟩, by decide +kernel, by decide +kernel, by decide +kernel⟩
set_option maxRecDepth 100000 in
theorem cl_X5_114 : fm_CV RX5 114 5 yX5_wearOf cX5_wearOf 2 (some .int) 1 := ⟨⟨fm_mem 484 (by decide +kernel) rfl, fm_mem 485 (by decide +kernel) rfl, fm_mem 486 (by decide +kernel) rfl, fm_mem 50 (by decide +kernel) rfl, fm_mem 487 (by rfl) rfl⟩, ⟨TX5, 8, rfl⟩, by decide +kernel, by decide +kernel, by decide +kernel⟩
set_option maxRecDepth 100000 in
theorem cl_X5_117 : fm_CV RX5 117 5 yX5_frameOf cX5_frameOf 2 (some .int) 1 := ⟨⟨fm_mem 488 (by decide +kernel) rfl, fm_mem 489 (by decide +kernel) rfl, fm_mem 490 (by decide +kernel) rfl, fm_mem 50 (by decide +kernel) rfl, fm_mem 491 (by rfl) rfl⟩, ⟨TX5, 8, rfl⟩, by decide +kernel, by decide +kernel, by decide +kernel⟩
set_option maxRecDepth 100000 in
theorem cl_X8_175 : fm_CV RX8 175 5 yX5_wearOf cX5_wearOf 2 (some .int) 1 := ⟨⟨fm_mem 492 (by decide +kernel) rfl, fm_mem 485 (by decide +kernel) rfl, fm_mem 486 (by decide +kernel) rfl, fm_mem 50 (by decide +kernel) rfl, fm_mem 487 (by rfl) rfl⟩, ⟨TX5, 8, rfl⟩, by decide +kernel, by decide +kernel, by decide +kernel⟩
set_option maxRecDepth 100000 in
theorem cl_X8_178 : fm_CS RX8 178 Lib.Math.max.name Lib.Math.max.code 2 (some .int) 2 := ⟨⟨fm_mem 493 (by decide +kernel) rfl, fm_mem 494 (by decide +kernel) rfl, fm_mem 54 (by decide +kernel) rfl, fm_mem 495 (by rfl) rfl⟩, by decide +kernel, by decide +kernel, by decide +kernel⟩
set_option maxRecDepth 100000 in
theorem cl_X8_184 : fm_CV RX8 184 5 yX5_frameOf cX5_frameOf 2 (some .int) 1 := ⟨⟨fm_mem 496 (by decide +kernel) rfl, fm_mem 489 (by decide +kernel) rfl, fm_mem 490 (by decide +kernel) rfl, fm_mem 50 (by decide +kernel) rfl, fm_mem 491 (by rfl) rfl⟩, ⟨TX5, 8, rfl⟩, by decide +kernel, by decide +kernel, by decide +kernel⟩
set_option maxRecDepth 100000 in
theorem cl_L_73 : fm_CV RL 73 7 yX8_note cX8_note 5 (some .int) 4 := ⟨⟨fm_mem 497 (by decide +kernel) rfl, fm_mem 498 (by decide +kernel) rfl, fm_mem 499 (by decide +kernel) rfl, fm_mem 43 (by decide +kernel) rfl, fm_mem 500 (by rfl) rfl⟩, ⟨TX8, 9, rfl⟩, by decide +kernel, by decide +kernel, by decide +kernel⟩
set_option maxRecDepth 100000 in
theorem cl_X8_188 : fm_CV RX8 188 2 yX2_append cX2_append 5 none 4 := ⟨⟨fm_mem 501 (by decide +kernel) rfl, fm_mem 502 (by decide +kernel) rfl, fm_mem 503 (by decide +kernel) rfl, fm_mem 46 (by decide +kernel) rfl, fm_mem 504 (by rfl) rfl⟩, ⟨TX2, 5, rfl⟩, by decide +kernel, by decide +kernel, by decide +kernel⟩
set_option maxRecDepth 100000 in
theorem cl_L_77 : fm_CV RL 77 7 yX8_tint cX8_tint 4 (some .int) 1 := ⟨⟨fm_mem 505 (by decide +kernel) rfl, fm_mem 506 (by decide +kernel) rfl, fm_mem 507 (by decide +kernel) rfl, fm_mem 43 (by decide +kernel) rfl, fm_mem 508 (by rfl) rfl⟩, ⟨TX8, 9, rfl⟩, by decide +kernel, by decide +kernel, by decide +kernel⟩
set_option maxRecDepth 100000 in
theorem cl_X8_191 : fm_CV RX8 191 2 yX2_tintOf cX2_tintOf 4 (some .int) 2 := ⟨⟨fm_mem 509 (by decide +kernel) rfl, fm_mem 510 (by decide +kernel) rfl, fm_mem 511 (by decide +kernel) rfl, fm_mem 46 (by decide +kernel) rfl, fm_mem 512 (by rfl) rfl⟩, ⟨TX2, 5, rfl⟩, by decide +kernel, by decide +kernel, by decide +kernel⟩
set_option maxRecDepth 100000 in
theorem cl_X8_194 : fm_CV RX8 194 7 yX8_tintOfLeastWorn cX8_tintOfLeastWorn 7 (some .int) 1 := ⟨⟨fm_mem 513 (by decide +kernel) rfl, fm_mem 515 (by decide +kernel) rfl, fm_mem 20 (by decide +kernel) rfl, fm_mem 43 (by decide +kernel) rfl, fm_mem 516 (by rfl) rfl⟩, ⟨TX8, 9, rfl⟩, by decide +kernel, by decide +kernel, by decide +kernel⟩
set_option maxRecDepth 100000 in
theorem cl_L_81 : fm_CV RL 81 7 yX8_cue cX8_cue 4 (some .int) 3 := ⟨⟨fm_mem 517 (by decide +kernel) rfl, fm_mem 518 (by decide +kernel) rfl, fm_mem 519 (by decide +kernel) rfl, fm_mem 43 (by decide +kernel) rfl, fm_mem 520 (by rfl) rfl⟩, ⟨TX8, 9, rfl⟩, by decide +kernel, by decide +kernel, by decide +kernel⟩
set_option maxRecDepth 100000 in
theorem cl_X8_198 : fm_CV RX8 198 0 yX0_append cX0_append 4 none 3 := ⟨⟨fm_mem 521 (by decide +kernel) rfl, fm_mem 522 (by decide +kernel) rfl, fm_mem 523 (by decide +kernel) rfl, fm_mem 47 (by decide +kernel) rfl, fm_mem 524 (by rfl) rfl⟩, ⟨TX0, 5, rfl⟩, by decide +kernel, by decide +kernel, by decide +kernel⟩
set_option maxRecDepth 100000 in
theorem cl_L_85 : fm_CV RL 85 7 yX8_noCues cX8_noCues 2 (some .int) 0 := ⟨⟨fm_mem 525 (by decide +kernel) rfl, fm_mem 526 (by decide +kernel) rfl, fm_mem 527 (by decide +kernel) rfl, fm_mem 43 (by decide +kernel) rfl, fm_mem 528 (by rfl) rfl⟩, ⟨TX8, 9, rfl⟩, by decide +kernel, by decide +kernel, by decide +kernel⟩
set_option maxRecDepth 100000 in
theorem cl_X8_199 : fm_CV RX8 199 0 yX0_clear cX0_clear 2 none 0 := ⟨⟨fm_mem 529 (by decide +kernel) rfl, fm_mem 530 (by decide +kernel) rfl, fm_mem 531 (by decide +kernel) rfl, fm_mem 47 (by decide +kernel) rfl, fm_mem 532 (by rfl) rfl⟩, ⟨TX0, 5, rfl⟩, by decide +kernel, by decide +kernel, by decide +kernel⟩
set_option maxRecDepth 100000 in
theorem cl_X0_30 : fm_CS RX0 30 yJ7_fill_53178 cJ7_fill_53178 4 none 2 := ⟨⟨fm_mem 533 (by decide +kernel) rfl, fm_mem 534 (by decide +kernel) rfl, fm_mem 55 (by decide +kernel) rfl, fm_mem 535 (by rfl) rfl⟩, by decide +kernel, by decide +kernel, by decide +kernel⟩
set_option maxRecDepth 100000 in
theorem cl_L_89 : fm_CV RL 89 7 yX8_order cX8_order 3 (some .int) 2 := ⟨⟨fm_mem 536 (by decide +kernel) rfl, fm_mem 537 (by decide +kernel) rfl, fm_mem 538 (by decide +kernel) rfl, fm_mem 43 (by decide +kernel) rfl, fm_mem 539 (by rfl) rfl⟩, ⟨TX8, 9, rfl⟩, by decide +kernel, by decide +kernel, by decide +kernel⟩
set_option maxRecDepth 100000 in
theorem cl_X8_202 : fm_CV RX8 202 0 yX0_findOrder cX0_findOrder 5 none 1 := ⟨⟨fm_mem 540 (by decide +kernel) rfl, fm_mem 541 (by decide +kernel) rfl, fm_mem 542 (by decide +kernel) rfl, fm_mem 47 (by decide +kernel) rfl, fm_mem 543 (by rfl) rfl⟩, ⟨TX0, 5, rfl⟩, by decide +kernel, by decide +kernel, by decide +kernel⟩
set_option maxRecDepth 100000 in
theorem cl_X0_36 : fm_CV RX0 36 0 yX0_weighSet cX0_weighSet 5 none 2 := ⟨⟨fm_mem 544 (by decide +kernel) rfl, fm_mem 546 (by decide +kernel) rfl, fm_mem 21 (by decide +kernel) rfl, fm_mem 47 (by decide +kernel) rfl, fm_mem 547 (by rfl) rfl⟩, ⟨TX0, 5, rfl⟩, by decide +kernel, by decide +kernel, by decide +kernel⟩
set_option maxRecDepth 100000 in
theorem cl_X0_45 : fm_CS RX0 45 yX0_isIn cX0_isIn 2 (some .boolean) 2 := ⟨⟨fm_mem 549 (by decide +kernel) rfl, fm_mem 550 (by decide +kernel) rfl, fm_mem 47 (by decide +kernel) rfl, fm_mem 551 (by rfl) rfl⟩, by decide +kernel, by decide +kernel, by decide +kernel⟩
set_option maxRecDepth 100000 in
theorem cl_X0_49 : fm_CV RX0 49 0 yX0_quarrelWith cX0_quarrelWith 6 (some .int) 3 := ⟨⟨fm_mem 552 (by decide +kernel) rfl, fm_mem 554 (by decide +kernel) rfl, fm_mem 22 (by decide +kernel) rfl, fm_mem 47 (by decide +kernel) rfl, fm_mem 555 (by rfl) rfl⟩, ⟨TX0, 5, rfl⟩, by decide +kernel, by decide +kernel, by decide +kernel⟩
set_option maxRecDepth 100000 in
theorem cl_X0_40 : fm_CV RX0 40 0 yX0_lowestNext cX0_lowestNext 4 (some .int) 2 := ⟨⟨fm_mem 556 (by decide +kernel) rfl, fm_mem 558 (by decide +kernel) rfl, fm_mem 23 (by decide +kernel) rfl, fm_mem 47 (by decide +kernel) rfl, fm_mem 559 (by rfl) rfl⟩, ⟨TX0, 5, rfl⟩, by decide +kernel, by decide +kernel, by decide +kernel⟩
set_option maxRecDepth 100000 in
theorem cl_X8_205 : fm_CV RX8 205 0 yX0_rivals cX0_rivals 1 (some .int) 0 := ⟨⟨fm_mem 560 (by decide +kernel) rfl, fm_mem 561 (by decide +kernel) rfl, fm_mem 562 (by decide +kernel) rfl, fm_mem 47 (by decide +kernel) rfl, fm_mem 563 (by rfl) rfl⟩, ⟨TX0, 5, rfl⟩, by decide +kernel, by decide +kernel, by decide +kernel⟩
set_option maxRecDepth 100000 in
theorem cl_X8_208 : fm_CV RX8 208 0 yX0_quarrel cX0_quarrel 1 (some .int) 0 := ⟨⟨fm_mem 564 (by decide +kernel) rfl, fm_mem 565 (by decide +kernel) rfl, fm_mem 566 (by decide +kernel) rfl, fm_mem 47 (by decide +kernel) rfl, fm_mem 567 (by rfl) rfl⟩, ⟨TX0, 5, rfl⟩, by decide +kernel, by decide +kernel, by decide +kernel⟩
set_option maxRecDepth 100000 in
theorem cl_L_93 : fm_CV RL 93 7 yX8_undo cX8_undo 3 (some .int) 0 := ⟨⟨fm_mem 568 (by decide +kernel) rfl, fm_mem 569 (by decide +kernel) rfl, fm_mem 570 (by decide +kernel) rfl, fm_mem 43 (by decide +kernel) rfl, fm_mem 571 (by rfl) rfl⟩, ⟨TX8, 9, rfl⟩, by decide +kernel, by decide +kernel, by decide +kernel⟩
set_option maxRecDepth 100000 in
theorem cl_L_97 : fm_CV RL 97 7 yX8_count cX8_count 2 (some .int) 1 := ⟨⟨fm_mem 572 (by decide +kernel) rfl, fm_mem 573 (by decide +kernel) rfl, fm_mem 574 (by decide +kernel) rfl, fm_mem 43 (by decide +kernel) rfl, fm_mem 575 (by rfl) rfl⟩, ⟨TX8, 9, rfl⟩, by decide +kernel, by decide +kernel, by decide +kernel⟩
set_option maxRecDepth 100000 in
theorem cl_L_17 : fm_CV RL 17 8 yX9_copy cX9_copy 1 (some .int) 0 := ⟨⟨fm_mem 658 (by decide +kernel) rfl, fm_mem 659 (by decide +kernel) rfl, fm_mem 660 (by decide +kernel) rfl, fm_mem 51 (by decide +kernel) rfl, fm_mem 661 (by rfl) rfl⟩, ⟨TX9, 25, rfl⟩, by decide +kernel, by decide +kernel, by decide +kernel⟩
set_option maxRecDepth 100000 in
theorem cl_L_22 : fm_CV RL 22 8 yX9_frame cX9_frame 5 (some .int) 4 := ⟨⟨fm_mem 662 (by decide +kernel) rfl, fm_mem 663 (by decide +kernel) rfl, fm_mem 664 (by decide +kernel) rfl, fm_mem 51 (by decide +kernel) rfl, fm_mem 665 (by rfl) rfl⟩, ⟨TX9, 25, rfl⟩, by decide +kernel, by decide +kernel, by decide +kernel⟩
set_option maxRecDepth 100000 in
theorem cl_X9_81 : fm_CV RX9 81 8 yX9_isCopy cX9_isCopy 2 (some .boolean) 1 := ⟨⟨fm_mem 666 (by decide +kernel) rfl, fm_mem 668 (by decide +kernel) rfl, fm_mem 24 (by decide +kernel) rfl, fm_mem 51 (by decide +kernel) rfl, fm_mem 669 (by rfl) rfl⟩, ⟨TX9, 25, rfl⟩, by decide +kernel, by decide +kernel, by decide +kernel⟩
set_option maxRecDepth 100000 in
theorem cl_X9_77 : fm_CS RX9 77 yX9_in cX9_in 3 (some .boolean) 3 := ⟨⟨fm_mem 670 (by decide +kernel) rfl, fm_mem 671 (by decide +kernel) rfl, fm_mem 51 (by decide +kernel) rfl, fm_mem 672 (by rfl) rfl⟩, by decide +kernel, by decide +kernel, by decide +kernel⟩
set_option maxRecDepth 100000 in
theorem cl_X9_85 : fm_CV RX9 85 8 yX9_lays cX9_lays 5 none 4 := ⟨⟨fm_mem 673 (by decide +kernel) rfl, fm_mem 675 (by decide +kernel) rfl, fm_mem 25 (by decide +kernel) rfl, fm_mem 51 (by decide +kernel) rfl, fm_mem 676 (by rfl) rfl⟩, ⟨TX9, 25, rfl⟩, by decide +kernel, by decide +kernel, by decide +kernel⟩
set_option maxRecDepth 100000 in
theorem cl_L_29 : fm_CV RL 29 8 yX9_frames cX9_frames 7 (some .int) 3 := ⟨⟨fm_mem 677 (by decide +kernel) rfl, fm_mem 678 (by decide +kernel) rfl, fm_mem 679 (by decide +kernel) rfl, fm_mem 51 (by decide +kernel) rfl, fm_mem 680 (by rfl) rfl⟩, ⟨TX9, 25, rfl⟩, by decide +kernel, by decide +kernel, by decide +kernel⟩
set_option maxRecDepth 100000 in
theorem cl_L_34 : fm_CV RL 34 8 yX9_at cX9_at 4 (some .int) 3 := ⟨⟨fm_mem 682 (by decide +kernel) rfl, fm_mem 683 (by decide +kernel) rfl, fm_mem 684 (by decide +kernel) rfl, fm_mem 51 (by decide +kernel) rfl, fm_mem 685 (by rfl) rfl⟩, ⟨TX9, 25, rfl⟩, by decide +kernel, by decide +kernel, by decide +kernel⟩
set_option maxRecDepth 100000 in
theorem cl_X9_91 : fm_CV RX9 91 8 yX9_isFrame cX9_isFrame 3 (some .boolean) 2 := ⟨⟨fm_mem 686 (by decide +kernel) rfl, fm_mem 688 (by decide +kernel) rfl, fm_mem 26 (by decide +kernel) rfl, fm_mem 51 (by decide +kernel) rfl, fm_mem 689 (by rfl) rfl⟩, ⟨TX9, 25, rfl⟩, by decide +kernel, by decide +kernel, by decide +kernel⟩
set_option maxRecDepth 100000 in
theorem cl_L_38 : fm_CV RL 38 8 yX9_wear cX9_wear 5 (some .int) 3 := ⟨⟨fm_mem 690 (by decide +kernel) rfl, fm_mem 691 (by decide +kernel) rfl, fm_mem 692 (by decide +kernel) rfl, fm_mem 51 (by decide +kernel) rfl, fm_mem 693 (by rfl) rfl⟩, ⟨TX9, 25, rfl⟩, by decide +kernel, by decide +kernel, by decide +kernel⟩
set_option maxRecDepth 100000 in
theorem cl_X9_98 : fm_CV RX9 98 8 yX9_keeps cX9_keeps 4 none 2 := ⟨⟨fm_mem 694 (by decide +kernel) rfl, fm_mem 696 (by decide +kernel) rfl, fm_mem 27 (by decide +kernel) rfl, fm_mem 51 (by decide +kernel) rfl, fm_mem 697 (by rfl) rfl⟩, ⟨TX9, 25, rfl⟩, by decide +kernel, by decide +kernel, by decide +kernel⟩
set_option maxRecDepth 100000 in
theorem cl_L_43 : fm_CV RL 43 8 yX9_place cX9_place 3 (some .int) 2 := ⟨⟨fm_mem 698 (by decide +kernel) rfl, fm_mem 699 (by decide +kernel) rfl, fm_mem 700 (by decide +kernel) rfl, fm_mem 51 (by decide +kernel) rfl, fm_mem 701 (by rfl) rfl⟩, ⟨TX9, 25, rfl⟩, by decide +kernel, by decide +kernel, by decide +kernel⟩
set_option maxRecDepth 100000 in
theorem cl_L_47 : fm_CV RL 47 8 yX9_noScript cX9_noScript 2 (some .int) 0 := ⟨⟨fm_mem 702 (by decide +kernel) rfl, fm_mem 703 (by decide +kernel) rfl, fm_mem 704 (by decide +kernel) rfl, fm_mem 51 (by decide +kernel) rfl, fm_mem 705 (by rfl) rfl⟩, ⟨TX9, 25, rfl⟩, by decide +kernel, by decide +kernel, by decide +kernel⟩
set_option maxRecDepth 100000 in
theorem cl_L_51 : fm_CV RL 51 8 yX9_rule cX9_rule 4 (some .int) 2 := ⟨⟨fm_mem 706 (by decide +kernel) rfl, fm_mem 707 (by decide +kernel) rfl, fm_mem 708 (by decide +kernel) rfl, fm_mem 51 (by decide +kernel) rfl, fm_mem 709 (by rfl) rfl⟩, ⟨TX9, 25, rfl⟩, by decide +kernel, by decide +kernel, by decide +kernel⟩
set_option maxRecDepth 100000 in
theorem cl_L_55 : fm_CV RL 55 8 yX9_line cX9_line 5 (some .int) 3 := ⟨⟨fm_mem 710 (by decide +kernel) rfl, fm_mem 711 (by decide +kernel) rfl, fm_mem 712 (by decide +kernel) rfl, fm_mem 51 (by decide +kernel) rfl, fm_mem 713 (by rfl) rfl⟩, ⟨TX9, 25, rfl⟩, by decide +kernel, by decide +kernel, by decide +kernel⟩
set_option maxRecDepth 100000 in
theorem cl_X9_106 : fm_CV RX9 106 8 yX9_lines cX9_lines 8 none 2 := ⟨⟨fm_mem 714 (by decide +kernel) rfl, fm_mem 716 (by decide +kernel) rfl, fm_mem 28 (by decide +kernel) rfl, fm_mem 51 (by decide +kernel) rfl, fm_mem 717 (by rfl) rfl⟩, ⟨TX9, 25, rfl⟩, by decide +kernel, by decide +kernel, by decide +kernel⟩
set_option maxRecDepth 100000 in
theorem cl_X9_102 : fm_CV RX9 102 8 yX9_pairCost cX9_pairCost 6 (some .int) 4 := ⟨⟨fm_mem 718 (by decide +kernel) rfl, fm_mem 720 (by decide +kernel) rfl, fm_mem 29 (by decide +kernel) rfl, fm_mem 51 (by decide +kernel) rfl, fm_mem 721 (by rfl) rfl⟩, ⟨TX9, 25, rfl⟩, by decide +kernel, by decide +kernel, by decide +kernel⟩
set_option maxRecDepth 100000 in
theorem cl_L_59 : fm_CV RL 59 8 yX9_stands cX9_stands 3 (some .int) 2 := ⟨⟨fm_mem 722 (by decide +kernel) rfl, fm_mem 723 (by decide +kernel) rfl, fm_mem 724 (by decide +kernel) rfl, fm_mem 51 (by decide +kernel) rfl, fm_mem 725 (by rfl) rfl⟩, ⟨TX9, 25, rfl⟩, by decide +kernel, by decide +kernel, by decide +kernel⟩
set_option maxRecDepth 100000 in
theorem cl_X9_109 : fm_CV RX9 109 8 yX9_isPlace cX9_isPlace 2 (some .boolean) 1 := ⟨⟨fm_mem 726 (by decide +kernel) rfl, fm_mem 728 (by decide +kernel) rfl, fm_mem 30 (by decide +kernel) rfl, fm_mem 51 (by decide +kernel) rfl, fm_mem 729 (by rfl) rfl⟩, ⟨TX9, 25, rfl⟩, by decide +kernel, by decide +kernel, by decide +kernel⟩
set_option maxRecDepth 100000 in
theorem cl_X9_112 : fm_CV RX9 112 8 yX9_standAll cX9_standAll 5 none 0 := ⟨⟨fm_mem 730 (by decide +kernel) rfl, fm_mem 732 (by decide +kernel) rfl, fm_mem 31 (by decide +kernel) rfl, fm_mem 51 (by decide +kernel) rfl, fm_mem 733 (by rfl) rfl⟩, ⟨TX9, 25, rfl⟩, by decide +kernel, by decide +kernel, by decide +kernel⟩
set_option maxRecDepth 100000 in
theorem cl_L_64 : fm_CV RL 64 8 yX9_whole cX9_whole 3 (some .int) 1 := ⟨⟨fm_mem 734 (by decide +kernel) rfl, fm_mem 735 (by decide +kernel) rfl, fm_mem 736 (by decide +kernel) rfl, fm_mem 51 (by decide +kernel) rfl, fm_mem 737 (by rfl) rfl⟩, ⟨TX9, 25, rfl⟩, by decide +kernel, by decide +kernel, by decide +kernel⟩
set_option maxRecDepth 100000 in
theorem cl_X9_136 : fm_CV RX9 136 8 yX9_wholes cX9_wholes 7 (some .int) 0 := ⟨⟨fm_mem 738 (by decide +kernel) rfl, fm_mem 740 (by decide +kernel) rfl, fm_mem 32 (by decide +kernel) rfl, fm_mem 51 (by decide +kernel) rfl, fm_mem 741 (by rfl) rfl⟩, ⟨TX9, 25, rfl⟩, by decide +kernel, by decide +kernel, by decide +kernel⟩
set_option maxRecDepth 100000 in
theorem cl_X9_123 : fm_CV RX9 123 8 yX9_may cX9_may 3 (some .boolean) 2 := ⟨⟨fm_mem 742 (by decide +kernel) rfl, fm_mem 744 (by decide +kernel) rfl, fm_mem 33 (by decide +kernel) rfl, fm_mem 51 (by decide +kernel) rfl, fm_mem 745 (by rfl) rfl⟩, ⟨TX9, 25, rfl⟩, by decide +kernel, by decide +kernel, by decide +kernel⟩
set_option maxRecDepth 100000 in
theorem cl_X9_130 : fm_CV RX9 130 8 yX9_own cX9_own 3 (some .int) 2 := ⟨⟨fm_mem 746 (by decide +kernel) rfl, fm_mem 748 (by decide +kernel) rfl, fm_mem 34 (by decide +kernel) rfl, fm_mem 51 (by decide +kernel) rfl, fm_mem 749 (by rfl) rfl⟩, ⟨TX9, 25, rfl⟩, by decide +kernel, by decide +kernel, by decide +kernel⟩
set_option maxRecDepth 100000 in
theorem cl_X9_119 : fm_CV RX9 119 8 yX9_worn cX9_worn 3 (some .int) 2 := ⟨⟨fm_mem 750 (by decide +kernel) rfl, fm_mem 752 (by decide +kernel) rfl, fm_mem 35 (by decide +kernel) rfl, fm_mem 51 (by decide +kernel) rfl, fm_mem 753 (by rfl) rfl⟩, ⟨TX9, 25, rfl⟩, by decide +kernel, by decide +kernel, by decide +kernel⟩
set_option maxRecDepth 100000 in
theorem cl_X9_133 : fm_CV RX9 133 8 yX9_rest cX9_rest 6 (some .int) 2 := ⟨⟨fm_mem 754 (by decide +kernel) rfl, fm_mem 756 (by decide +kernel) rfl, fm_mem 36 (by decide +kernel) rfl, fm_mem 51 (by decide +kernel) rfl, fm_mem 757 (by rfl) rfl⟩, ⟨TX9, 25, rfl⟩, by decide +kernel, by decide +kernel, by decide +kernel⟩
set_option maxRecDepth 100000 in
theorem cl_X9_126 : fm_CV RX9 126 8 yX9_between cX9_between 4 (some .int) 3 := ⟨⟨fm_mem 759 (by decide +kernel) rfl, fm_mem 761 (by decide +kernel) rfl, fm_mem 37 (by decide +kernel) rfl, fm_mem 51 (by decide +kernel) rfl, fm_mem 762 (by rfl) rfl⟩, ⟨TX9, 25, rfl⟩, by decide +kernel, by decide +kernel, by decide +kernel⟩
set_option maxRecDepth 100000 in
theorem cl_X9_115 : fm_CV RX9 115 8 yX9_view cX9_view 3 (some .int) 2 := ⟨⟨fm_mem 763 (by decide +kernel) rfl, fm_mem 765 (by decide +kernel) rfl, fm_mem 38 (by decide +kernel) rfl, fm_mem 51 (by decide +kernel) rfl, fm_mem 766 (by rfl) rfl⟩, ⟨TX9, 25, rfl⟩, by decide +kernel, by decide +kernel, by decide +kernel⟩
set_option maxRecDepth 100000 in
theorem cl_L_68 : fm_CV RL 68 8 yX9_about cX9_about 5 (some .int) 1 := ⟨⟨fm_mem 767 (by decide +kernel) rfl, fm_mem 768 (by decide +kernel) rfl, fm_mem 769 (by decide +kernel) rfl, fm_mem 51 (by decide +kernel) rfl, fm_mem 770 (by rfl) rfl⟩, ⟨TX9, 25, rfl⟩, by decide +kernel, by decide +kernel, by decide +kernel⟩
set_option maxRecDepth 100000 in
theorem cl_L_72 : fm_CV RL 72 8 yX9_mend cX9_mend 6 (some .int) 1 := ⟨⟨fm_mem 771 (by decide +kernel) rfl, fm_mem 772 (by decide +kernel) rfl, fm_mem 773 (by decide +kernel) rfl, fm_mem 51 (by decide +kernel) rfl, fm_mem 774 (by rfl) rfl⟩, ⟨TX9, 25, rfl⟩, by decide +kernel, by decide +kernel, by decide +kernel⟩
set_option maxRecDepth 100000 in
theorem cl_L_76 : fm_CV RL 76 8 yX9_note cX9_note 5 (some .int) 4 := ⟨⟨fm_mem 775 (by decide +kernel) rfl, fm_mem 776 (by decide +kernel) rfl, fm_mem 777 (by decide +kernel) rfl, fm_mem 51 (by decide +kernel) rfl, fm_mem 778 (by rfl) rfl⟩, ⟨TX9, 25, rfl⟩, by decide +kernel, by decide +kernel, by decide +kernel⟩
set_option maxRecDepth 100000 in
theorem cl_L_80 : fm_CV RL 80 8 yX9_tint cX9_tint 6 (some .int) 1 := ⟨⟨fm_mem 779 (by decide +kernel) rfl, fm_mem 780 (by decide +kernel) rfl, fm_mem 781 (by decide +kernel) rfl, fm_mem 51 (by decide +kernel) rfl, fm_mem 782 (by rfl) rfl⟩, ⟨TX9, 25, rfl⟩, by decide +kernel, by decide +kernel, by decide +kernel⟩
set_option maxRecDepth 100000 in
theorem cl_X9_143 : fm_CV RX9 143 8 yX9_tintOf cX9_tintOf 5 (some .int) 2 := ⟨⟨fm_mem 783 (by decide +kernel) rfl, fm_mem 785 (by decide +kernel) rfl, fm_mem 39 (by decide +kernel) rfl, fm_mem 51 (by decide +kernel) rfl, fm_mem 786 (by rfl) rfl⟩, ⟨TX9, 25, rfl⟩, by decide +kernel, by decide +kernel, by decide +kernel⟩
set_option maxRecDepth 100000 in
theorem cl_L_84 : fm_CV RL 84 8 yX9_cue cX9_cue 4 (some .int) 3 := ⟨⟨fm_mem 787 (by decide +kernel) rfl, fm_mem 788 (by decide +kernel) rfl, fm_mem 789 (by decide +kernel) rfl, fm_mem 51 (by decide +kernel) rfl, fm_mem 790 (by rfl) rfl⟩, ⟨TX9, 25, rfl⟩, by decide +kernel, by decide +kernel, by decide +kernel⟩
set_option maxRecDepth 100000 in
theorem cl_L_88 : fm_CV RL 88 8 yX9_noCues cX9_noCues 2 (some .int) 0 := ⟨⟨fm_mem 791 (by decide +kernel) rfl, fm_mem 792 (by decide +kernel) rfl, fm_mem 793 (by decide +kernel) rfl, fm_mem 51 (by decide +kernel) rfl, fm_mem 794 (by rfl) rfl⟩, ⟨TX9, 25, rfl⟩, by decide +kernel, by decide +kernel, by decide +kernel⟩
set_option maxRecDepth 100000 in
theorem cl_L_92 : fm_CV RL 92 8 yX9_order cX9_order 10 (some .int) 2 := ⟨⟨fm_mem 795 (by decide +kernel) rfl, fm_mem 796 (by decide +kernel) rfl, fm_mem 797 (by decide +kernel) rfl, fm_mem 51 (by decide +kernel) rfl, fm_mem 798 (by rfl) rfl⟩, ⟨TX9, 25, rfl⟩, by decide +kernel, by decide +kernel, by decide +kernel⟩
set_option maxRecDepth 100000 in
theorem cl_X9_149 : fm_CV RX9 149 8 yX9_ordered cX9_ordered 10 (some .int) 2 := ⟨⟨fm_mem 799 (by decide +kernel) rfl, fm_mem 801 (by decide +kernel) rfl, fm_mem 40 (by decide +kernel) rfl, fm_mem 51 (by decide +kernel) rfl, fm_mem 802 (by rfl) rfl⟩, ⟨TX9, 25, rfl⟩, by decide +kernel, by decide +kernel, by decide +kernel⟩
set_option maxRecDepth 100000 in
theorem cl_X9_152 : fm_CV RX9 152 8 yX9_quarrel cX9_quarrel 5 (some .int) 1 := ⟨⟨fm_mem 803 (by decide +kernel) rfl, fm_mem 805 (by decide +kernel) rfl, fm_mem 41 (by decide +kernel) rfl, fm_mem 51 (by decide +kernel) rfl, fm_mem 806 (by rfl) rfl⟩, ⟨TX9, 25, rfl⟩, by decide +kernel, by decide +kernel, by decide +kernel⟩
set_option maxRecDepth 100000 in
theorem cl_L_96 : fm_CV RL 96 8 yX9_undo cX9_undo 1 (some .int) 0 := ⟨⟨fm_mem 807 (by decide +kernel) rfl, fm_mem 808 (by decide +kernel) rfl, fm_mem 809 (by decide +kernel) rfl, fm_mem 51 (by decide +kernel) rfl, fm_mem 810 (by rfl) rfl⟩, ⟨TX9, 25, rfl⟩, by decide +kernel, by decide +kernel, by decide +kernel⟩
set_option maxRecDepth 100000 in
theorem cl_L_100 : fm_CV RL 100 8 yX9_count cX9_count 2 (some .int) 1 := ⟨⟨fm_mem 811 (by decide +kernel) rfl, fm_mem 812 (by decide +kernel) rfl, fm_mem 813 (by decide +kernel) rfl, fm_mem 51 (by decide +kernel) rfl, fm_mem 814 (by rfl) rfl⟩, ⟨TX9, 25, rfl⟩, by decide +kernel, by decide +kernel, by decide +kernel⟩
theorem ck_X7_19 : Cond.constant RX7 19 (65535) ∈ fm_T := fm_mem 298 (by decide +kernel) rfl
theorem ck_X5_94 : Cond.constant RX5 94 (1000000) ∈ fm_T := fm_mem 443 (by decide +kernel) rfl
theorem ck_X0_44 : Cond.constant RX0 44 (1000000) ∈ fm_T := fm_mem 548 (by decide +kernel) rfl
theorem ck_X9_89 : Cond.constantLong RX9 89 (65535) ∈ fm_T := fm_mem 681 (by decide +kernel) rfl
theorem ck_X9_122 : Cond.constant RX9 122 (99999) ∈ fm_T := fm_mem 758 (by decide +kernel) rfl
theorem ck_L_23 : Cond.constantLong RL 23 (4294967295) ∈ fm_T := fm_mem 815 (by decide +kernel) rfl
