/-! the law: its twenty cases -/
theorem lx_r {xs : Nat → Int32} {z : Int} : fm_R (lx xs z) := fm_rng _
theorem la_d1 {n : Nat} : ∀ k, k < km.1 → ¬ fm_A kc (la1 n) (la2 n k) := fun k hk h => by
  obtain ⟨j, h1, h2⟩ := h
  have := (nw_ko j h1).2
  unfold la1 la2 at h2
  omega
theorem la_d2 {n : Nat} : ∀ k, k < kc.1 → ¬ fm_A km (la2 n) (la1 n k) := fun k hk h => by
  obtain ⟨j, h1, h2⟩ := h
  have := (nw_ko k hk).2
  unfold la1 la2 at h2
  omega
theorem la_l1 {n : Nat} : ∀ k, k < kc.1 → n ≤ la1 n k := fun k _ => Nat.le_add_right _ _
theorem la_l2 {n : Nat} : ∀ k, k < km.1 → n ≤ la2 n k := fun k _ => by unfold la2; omega
theorem la_D1 {n : Nat} {ct : Nat → ClassId} : va_D (fun _ => True) (fm_ws kc ct (la1 n) (fun _ _ => 0)) := by
  refine ⟨fun i j p q hi hj e => ?_, fun _ _ _ => trivial⟩
  obtain ⟨h1, rfl⟩ := fm_ws_some hi
  obtain ⟨h2, rfl⟩ := fm_ws_some hj
  have e2 : n + nw_off i = n + nw_off j := e
  have e3 : nw_off i = nw_off j := by omega
  rw [← (nw_ko i h1).1, ← (nw_ko j h2).1, e3]
theorem la_D2 {n : Nat} {ct : Nat → ClassId} : va_D (fun _ => True) (fm_ws km ct (la2 n) (fun _ _ => 0)) := by
  refine ⟨fun i j p q hi hj e => ?_, fun _ _ _ => trivial⟩
  obtain ⟨h1, rfl⟩ := fm_ws_some hi
  obtain ⟨h2, rfl⟩ := fm_ws_some hj
  have e2 : n + 144 + i = n + 144 + j := e
  omega
section LWB
variable {l : Launch} {D : va_G} {ct : Nat → ClassId} {Γ : fm_G} {Q : State → Prop} {b N : Nat} {xs : Nat → Int32} {σ μ : fm_Mem} {pc : Nat} {L : List (Option Value)} {st : List Value}
theorem lw_cls {Q1 : Int → fm_Mem → Prop} {y : MethodName} {rm : Room} {idx maxL n : Nat} {bytes : ByteArray} {ret : Option FieldType} {As rest : List Value} (hd : decode cL_law pc = .ok (.invokevirtual idx, 3)) (hc : fm_CV RL idx 7 y bytes maxL ret n) (hM : fm_Met kc (l, D, ct, la1 Γ.2.2.1.heap.size) y bytes maxL ret rm (fm_r (l, D, ct, la1 Γ.2.2.1.heap.size) 0 :: As) σ (fm_pI Q1)) (hrc : rm.cells = 0) (hrs : rm.slots = 0)
    (hR : rm.frames + 1 ≤ room_1.frames ∧ 8 + (maxL + 11) + rm.locals ≤ room_1.locals) (hn : As.length = n) (hst : st = As.reverse ++ .ref (la1 Γ.2.2.1.heap.size 0) :: rest) (hW : (rest.map fun v => v.category).sum ≤ 8)
    (kk : ∀ (z : Int) (σ' : fm_Mem), Q1 z σ' → lw_V l D ct Γ Q b N xs kc km (la1 Γ.2.2.1.heap.size) (la2 Γ.2.2.1.heap.size) σ' μ (pc + 3) L (fm_I z :: rest)) : lw_V l D ct Γ Q b N xs kc km (la1 Γ.2.2.1.heap.size) (la2 Γ.2.2.1.heap.size) σ μ pc L st := lw_callV la_d1 la_l1 la_D1 hd hc hM ob_0 hrc hrs hR hn hst hW (fun v σ' h => by obtain ⟨z, rfl, h2⟩ := h; exact kk z σ' h2)
theorem lw_clz {Q1 : Int → fm_Mem → Prop} {y : MethodName} {rm : Room} {idx maxL n : Nat} {bytes : ByteArray} {ret : Option FieldType} {As rest : List Value} (hd : decode cL_law pc = .ok (.invokevirtual idx, 3)) (hc : fm_CV RL idx 7 y bytes maxL ret n) (hM : fm_MetS kc (l, D, ct, la1 Γ.2.2.1.heap.size) y bytes maxL ret rm (fm_r (l, D, ct, la1 Γ.2.2.1.heap.size) 0 :: As) σ (fm_pI Q1)) (hrc : rm.cells = 0) (hrs : rm.slots = 0)
    (hR : rm.frames + 1 ≤ room_1.frames ∧ 8 + (maxL + 11) + rm.locals ≤ room_1.locals) (hn : As.length = n) (hst : st = As.reverse ++ .ref (la1 Γ.2.2.1.heap.size 0) :: rest) (hW : (rest.map fun v => v.category).sum ≤ 8)
    (kk : ∀ (z : Int) (σ' : fm_Mem), Q1 z σ' → lw_V l D ct Γ Q b N xs kc km (la1 Γ.2.2.1.heap.size) (la2 Γ.2.2.1.heap.size) σ' μ (pc + 3) L (fm_I z :: rest)) : lw_V l D ct Γ Q b N xs kc km (la1 Γ.2.2.1.heap.size) (la2 Γ.2.2.1.heap.size) σ μ pc L st := lw_callZ la_d1 la_l1 la_D1 hd hc hM ob_0 hrc hrs hR hn hst hW (fun v σ' h => by obtain ⟨z, rfl, h2⟩ := h; exact kk z σ' h2)
theorem lw_mod {Q1 : Int → fm_Mem → Prop} {y : MethodName} {rm : Room} {idx maxL n : Nat} {bytes : ByteArray} {ret : Option FieldType} {As rest : List Value} (hd : decode cL_law pc = .ok (.invokevirtual idx, 3)) (hc : fm_CV RL idx 8 y bytes maxL ret n) (hM : fm_Met km (l, D, ct, la2 Γ.2.2.1.heap.size) y bytes maxL ret rm (fm_r (l, D, ct, la2 Γ.2.2.1.heap.size) 0 :: As) μ (fm_pI Q1)) (hrc : rm.cells = 0) (hrs : rm.slots = 0)
    (hR : rm.frames + 1 ≤ room_1.frames ∧ 8 + (maxL + 11) + rm.locals ≤ room_1.locals) (hn : As.length = n) (hst : st = As.reverse ++ .ref (la2 Γ.2.2.1.heap.size 0) :: rest) (hW : (rest.map fun v => v.category).sum ≤ 8)
    (kk : ∀ (z : Int) (σ' : fm_Mem), Q1 z σ' → lw_V l D ct Γ Q b N xs kc km (la1 Γ.2.2.1.heap.size) (la2 Γ.2.2.1.heap.size) σ σ' (pc + 3) L (fm_I z :: rest)) : lw_V l D ct Γ Q b N xs kc km (la1 Γ.2.2.1.heap.size) (la2 Γ.2.2.1.heap.size) σ μ pc L st := lw_swap (lw_callV la_d2 la_l2 la_D2 hd hc hM mb_0 hrc hrs hR hn hst hW (fun v σ' h => by obtain ⟨z, rfl, h2⟩ := h; exact lw_swap (kk z σ' h2)))
set_option maxRecDepth 20000 in
set_option maxHeartbeats 4000000 in
theorem lw_c0 {i : Int} (hN : N ≤ 2560) (h0 : 0 ≤ i) (h5 : i + 5 ≤ (N : Int)) (hi : fj μ) (h : rel μ σ) (k : ∀ σ' μ' : fm_Mem, fj μ' → rel μ' σ' → lw_V l D ct Γ Q b N xs kc km (la1 Γ.2.2.1.heap.size) (la2 Γ.2.2.1.heap.size) σ' μ' 778 [some (.ref b), some (.ref (la1 Γ.2.2.1.heap.size 0)), some (.ref (la2 Γ.2.2.1.heap.size 0)), some (fm_I i)] []) : lw_V l D ct Γ Q b N xs kc km (la1 Γ.2.2.1.heap.size) (la2 Γ.2.2.1.heap.size) σ μ 128 [some (.ref b), some (.ref (la1 Γ.2.2.1.heap.size 0)), some (.ref (la2 Γ.2.2.1.heap.size 0)), some (fm_I i)] [] := by
  refine lw_aload (i := 1) rfl dL_law_128 ?_
  refine lw_cls dL_law_129 cl_L_13 (k_X8_copy hi h ) rfl rfl (by decide) rfl rfl (Nat.le_of_ble_eq_true rfl) (fun z1 σ1 q1 => ?_)
  refine lw_aload (i := 2) rfl dL_law_132 ?_
  refine lw_mod dL_law_133 cl_L_17 (k_X9_copy hi ) rfl rfl (by decide) rfl rfl (Nat.le_of_ble_eq_true rfl) (fun z2 μ1 q2 => ?_)
  exact lw_eq 778 (q1.1.trans q2.1.symm) dL_law_136 (by decide) (k σ1 μ1 (fj_sam (fs_copy hi) q2.2) (q1.2.sam q2.2))
set_option maxRecDepth 20000 in
set_option maxHeartbeats 4000000 in
theorem lw_c1 {i : Int} (hN : N ≤ 2560) (h0 : 0 ≤ i) (h5 : i + 5 ≤ (N : Int)) (hi : fj μ) (h : rel μ σ) (k : ∀ σ' μ' : fm_Mem, fj μ' → rel μ' σ' → lw_V l D ct Γ Q b N xs kc km (la1 Γ.2.2.1.heap.size) (la2 Γ.2.2.1.heap.size) σ' μ' 778 [some (.ref b), some (.ref (la1 Γ.2.2.1.heap.size 0)), some (.ref (la2 Γ.2.2.1.heap.size 0)), some (fm_I i)] []) : lw_V l D ct Γ Q b N xs kc km (la1 Γ.2.2.1.heap.size) (la2 Γ.2.2.1.heap.size) σ μ 141 [some (.ref b), some (.ref (la1 Γ.2.2.1.heap.size 0)), some (.ref (la2 Γ.2.2.1.heap.size 0)), some (fm_I i)] [] := by
  refine lw_aload (i := 1) rfl dL_law_141 ?_
  refine lw_aload (i := 0) rfl dL_law_142 ?_
  refine lw_iload (i := 3) rfl dL_law_143 ?_
  refine lw_iconst dL_law_144 ?_
  refine lw_iadd dL_law_145 ?_
  refine lw_sld (by omega) (by omega) hN dL_law_146 ?_
  refine lw_aload (i := 0) rfl dL_law_147 ?_
  refine lw_iload (i := 3) rfl dL_law_148 ?_
  refine lw_iconst dL_law_149 ?_
  refine lw_iadd dL_law_150 ?_
  refine lw_sld (by omega) (by omega) hN dL_law_151 ?_
  refine lw_aload (i := 0) rfl dL_law_152 ?_
  refine lw_iload (i := 3) rfl dL_law_153 ?_
  refine lw_iconst dL_law_154 ?_
  refine lw_iadd dL_law_155 ?_
  refine lw_sld (by omega) (by omega) hN dL_law_156 ?_
  refine lw_aload (i := 0) rfl dL_law_157 ?_
  refine lw_iload (i := 3) rfl dL_law_158 ?_
  refine lw_iconst dL_law_159 ?_
  refine lw_iadd dL_law_160 ?_
  refine lw_sld (by omega) (by omega) hN dL_law_161 ?_
  refine lw_cls dL_law_162 cl_L_18 (k_X8_frame hi h lx_r lx_r lx_r lx_r) rfl rfl (by decide) rfl rfl (Nat.le_of_ble_eq_true rfl) (fun z1 σ1 q1 => ?_)
  refine lw_aload (i := 2) rfl dL_law_165 ?_
  refine lw_aload (i := 0) rfl dL_law_166 ?_
  refine lw_iload (i := 3) rfl dL_law_167 ?_
  refine lw_iconst dL_law_168 ?_
  refine lw_iadd dL_law_169 ?_
  refine lw_sld (by omega) (by omega) hN dL_law_170 ?_
  refine lw_aload (i := 0) rfl dL_law_171 ?_
  refine lw_iload (i := 3) rfl dL_law_172 ?_
  refine lw_iconst dL_law_173 ?_
  refine lw_iadd dL_law_174 ?_
  refine lw_sld (by omega) (by omega) hN dL_law_175 ?_
  refine lw_aload (i := 0) rfl dL_law_176 ?_
  refine lw_iload (i := 3) rfl dL_law_177 ?_
  refine lw_iconst dL_law_178 ?_
  refine lw_iadd dL_law_179 ?_
  refine lw_sld (by omega) (by omega) hN dL_law_180 ?_
  refine lw_aload (i := 0) rfl dL_law_181 ?_
  refine lw_iload (i := 3) rfl dL_law_182 ?_
  refine lw_iconst dL_law_183 ?_
  refine lw_iadd dL_law_184 ?_
  refine lw_sld (by omega) (by omega) hN dL_law_185 ?_
  refine lw_mod dL_law_186 cl_L_22 (k_X9_frame hi lx_r lx_r lx_r lx_r) rfl rfl (by decide) rfl rfl (Nat.le_of_ble_eq_true rfl) (fun z2 μ1 q2 => ?_)
  exact lw_eq 778 (q1.1.trans q2.1.symm) dL_law_189 (by decide) (k σ1 μ1 (fj_sam (fs_frame hi _ _ _ _) q2.2) (q1.2.sam q2.2))
set_option maxRecDepth 20000 in
set_option maxHeartbeats 4000000 in
theorem lw_c2 {i : Int} (hN : N ≤ 2560) (h0 : 0 ≤ i) (h5 : i + 5 ≤ (N : Int)) (hi : fj μ) (h : rel μ σ) (k : ∀ σ' μ' : fm_Mem, fj μ' → rel μ' σ' → lw_V l D ct Γ Q b N xs kc km (la1 Γ.2.2.1.heap.size) (la2 Γ.2.2.1.heap.size) σ' μ' 778 [some (.ref b), some (.ref (la1 Γ.2.2.1.heap.size 0)), some (.ref (la2 Γ.2.2.1.heap.size 0)), some (fm_I i)] []) : lw_V l D ct Γ Q b N xs kc km (la1 Γ.2.2.1.heap.size) (la2 Γ.2.2.1.heap.size) σ μ 194 [some (.ref b), some (.ref (la1 Γ.2.2.1.heap.size 0)), some (.ref (la2 Γ.2.2.1.heap.size 0)), some (fm_I i)] [] := by
  refine lw_aload (i := 1) rfl dL_law_194 ?_
  refine lw_aload (i := 0) rfl dL_law_195 ?_
  refine lw_iload (i := 3) rfl dL_law_196 ?_
  refine lw_iconst dL_law_197 ?_
  refine lw_iadd dL_law_198 ?_
  refine lw_sld (by omega) (by omega) hN dL_law_199 ?_
  refine lw_aload (i := 0) rfl dL_law_200 ?_
  refine lw_iload (i := 3) rfl dL_law_201 ?_
  refine lw_iconst dL_law_202 ?_
  refine lw_iadd dL_law_203 ?_
  refine lw_sld (by omega) (by omega) hN dL_law_204 ?_
  refine lw_aload (i := 0) rfl dL_law_205 ?_
  refine lw_iload (i := 3) rfl dL_law_206 ?_
  refine lw_iconst dL_law_207 ?_
  refine lw_iadd dL_law_208 ?_
  refine lw_sld (by omega) (by omega) hN dL_law_209 ?_
  refine lw_i2l dL_law_210 ?_
  refine lw_bipush (by decide) dL_law_211 ?_
  refine lw_lshl dL_law_213 ?_
  refine lw_aload (i := 0) rfl dL_law_214 ?_
  refine lw_iload (i := 3) rfl dL_law_215 ?_
  refine lw_iconst dL_law_216 ?_
  refine lw_iadd dL_law_217 ?_
  refine lw_sld (by omega) (by omega) hN dL_law_218 ?_
  refine lw_i2l dL_law_219 ?_
  refine lw_ldc2 ck_L_23 dL_law_220 ?_
  refine lw_land dL_law_223 ?_
  refine lw_lor dL_law_224 ?_
  refine lw_cls dL_law_225 cl_L_25 (k_X8_frames hi h lx_r lx_r) rfl rfl (by decide) rfl rfl (Nat.le_of_ble_eq_true rfl) (fun z1 σ1 q1 => ?_)
  refine lw_aload (i := 2) rfl dL_law_228 ?_
  refine lw_aload (i := 0) rfl dL_law_229 ?_
  refine lw_iload (i := 3) rfl dL_law_230 ?_
  refine lw_iconst dL_law_231 ?_
  refine lw_iadd dL_law_232 ?_
  refine lw_sld (by omega) (by omega) hN dL_law_233 ?_
  refine lw_aload (i := 0) rfl dL_law_234 ?_
  refine lw_iload (i := 3) rfl dL_law_235 ?_
  refine lw_iconst dL_law_236 ?_
  refine lw_iadd dL_law_237 ?_
  refine lw_sld (by omega) (by omega) hN dL_law_238 ?_
  refine lw_aload (i := 0) rfl dL_law_239 ?_
  refine lw_iload (i := 3) rfl dL_law_240 ?_
  refine lw_iconst dL_law_241 ?_
  refine lw_iadd dL_law_242 ?_
  refine lw_sld (by omega) (by omega) hN dL_law_243 ?_
  refine lw_i2l dL_law_244 ?_
  refine lw_bipush (by decide) dL_law_245 ?_
  refine lw_lshl dL_law_247 ?_
  refine lw_aload (i := 0) rfl dL_law_248 ?_
  refine lw_iload (i := 3) rfl dL_law_249 ?_
  refine lw_iconst dL_law_250 ?_
  refine lw_iadd dL_law_251 ?_
  refine lw_sld (by omega) (by omega) hN dL_law_252 ?_
  refine lw_i2l dL_law_253 ?_
  refine lw_ldc2 ck_L_23 dL_law_254 ?_
  refine lw_land dL_law_257 ?_
  refine lw_lor dL_law_258 ?_
  refine lw_mod dL_law_259 cl_L_29 (k_X9_frames hi lx_r lx_r) rfl rfl (by decide) rfl rfl (Nat.le_of_ble_eq_true rfl) (fun z2 μ1 q2 => ?_)
  exact lw_eq 778 (q1.1.trans q2.1.symm) dL_law_262 (by decide) (k σ1 μ1 (fj_sam (fs_frames hi _ _ _) q2.2) (q1.2.sam q2.2))
set_option maxRecDepth 20000 in
set_option maxHeartbeats 4000000 in
theorem lw_c3 {i : Int} (hN : N ≤ 2560) (h0 : 0 ≤ i) (h5 : i + 5 ≤ (N : Int)) (hi : fj μ) (h : rel μ σ) (k : ∀ σ' μ' : fm_Mem, fj μ' → rel μ' σ' → lw_V l D ct Γ Q b N xs kc km (la1 Γ.2.2.1.heap.size) (la2 Γ.2.2.1.heap.size) σ' μ' 778 [some (.ref b), some (.ref (la1 Γ.2.2.1.heap.size 0)), some (.ref (la2 Γ.2.2.1.heap.size 0)), some (fm_I i)] []) : lw_V l D ct Γ Q b N xs kc km (la1 Γ.2.2.1.heap.size) (la2 Γ.2.2.1.heap.size) σ μ 267 [some (.ref b), some (.ref (la1 Γ.2.2.1.heap.size 0)), some (.ref (la2 Γ.2.2.1.heap.size 0)), some (fm_I i)] [] := by
  refine lw_aload (i := 1) rfl dL_law_267 ?_
  refine lw_aload (i := 0) rfl dL_law_268 ?_
  refine lw_iload (i := 3) rfl dL_law_269 ?_
  refine lw_iconst dL_law_270 ?_
  refine lw_iadd dL_law_271 ?_
  refine lw_sld (by omega) (by omega) hN dL_law_272 ?_
  refine lw_aload (i := 0) rfl dL_law_273 ?_
  refine lw_iload (i := 3) rfl dL_law_274 ?_
  refine lw_iconst dL_law_275 ?_
  refine lw_iadd dL_law_276 ?_
  refine lw_sld (by omega) (by omega) hN dL_law_277 ?_
  refine lw_aload (i := 0) rfl dL_law_278 ?_
  refine lw_iload (i := 3) rfl dL_law_279 ?_
  refine lw_iconst dL_law_280 ?_
  refine lw_iadd dL_law_281 ?_
  refine lw_sld (by omega) (by omega) hN dL_law_282 ?_
  refine lw_cls dL_law_283 cl_L_30 (k_X8_at hi h lx_r lx_r lx_r) rfl rfl (by decide) rfl rfl (Nat.le_of_ble_eq_true rfl) (fun z1 σ1 q1 => ?_)
  refine lw_aload (i := 2) rfl dL_law_286 ?_
  refine lw_aload (i := 0) rfl dL_law_287 ?_
  refine lw_iload (i := 3) rfl dL_law_288 ?_
  refine lw_iconst dL_law_289 ?_
  refine lw_iadd dL_law_290 ?_
  refine lw_sld (by omega) (by omega) hN dL_law_291 ?_
  refine lw_aload (i := 0) rfl dL_law_292 ?_
  refine lw_iload (i := 3) rfl dL_law_293 ?_
  refine lw_iconst dL_law_294 ?_
  refine lw_iadd dL_law_295 ?_
  refine lw_sld (by omega) (by omega) hN dL_law_296 ?_
  refine lw_aload (i := 0) rfl dL_law_297 ?_
  refine lw_iload (i := 3) rfl dL_law_298 ?_
  refine lw_iconst dL_law_299 ?_
  refine lw_iadd dL_law_300 ?_
  refine lw_sld (by omega) (by omega) hN dL_law_301 ?_
  refine lw_mod dL_law_302 cl_L_34 (k_X9_at hi lx_r lx_r lx_r) rfl rfl (by decide) rfl rfl (Nat.le_of_ble_eq_true rfl) (fun z2 μ1 q2 => ?_)
  exact lw_eq 778 (q1.1.trans q2.1.symm) dL_law_305 (by decide) (k σ1 μ1 (fj_sam hi q2.2) (q1.2.sam q2.2))
set_option maxRecDepth 20000 in
set_option maxHeartbeats 4000000 in
theorem lw_c4 {i : Int} (hN : N ≤ 2560) (h0 : 0 ≤ i) (h5 : i + 5 ≤ (N : Int)) (hi : fj μ) (h : rel μ σ) (k : ∀ σ' μ' : fm_Mem, fj μ' → rel μ' σ' → lw_V l D ct Γ Q b N xs kc km (la1 Γ.2.2.1.heap.size) (la2 Γ.2.2.1.heap.size) σ' μ' 778 [some (.ref b), some (.ref (la1 Γ.2.2.1.heap.size 0)), some (.ref (la2 Γ.2.2.1.heap.size 0)), some (fm_I i)] []) : lw_V l D ct Γ Q b N xs kc km (la1 Γ.2.2.1.heap.size) (la2 Γ.2.2.1.heap.size) σ μ 310 [some (.ref b), some (.ref (la1 Γ.2.2.1.heap.size 0)), some (.ref (la2 Γ.2.2.1.heap.size 0)), some (fm_I i)] [] := by
  refine lw_aload (i := 1) rfl dL_law_310 ?_
  refine lw_aload (i := 0) rfl dL_law_311 ?_
  refine lw_iload (i := 3) rfl dL_law_312 ?_
  refine lw_iconst dL_law_313 ?_
  refine lw_iadd dL_law_314 ?_
  refine lw_sld (by omega) (by omega) hN dL_law_315 ?_
  refine lw_aload (i := 0) rfl dL_law_316 ?_
  refine lw_iload (i := 3) rfl dL_law_317 ?_
  refine lw_iconst dL_law_318 ?_
  refine lw_iadd dL_law_319 ?_
  refine lw_sld (by omega) (by omega) hN dL_law_320 ?_
  refine lw_aload (i := 0) rfl dL_law_321 ?_
  refine lw_iload (i := 3) rfl dL_law_322 ?_
  refine lw_iconst dL_law_323 ?_
  refine lw_iadd dL_law_324 ?_
  refine lw_sld (by omega) (by omega) hN dL_law_325 ?_
  refine lw_cls dL_law_326 cl_L_35 (k_X8_wear hi h lx_r lx_r lx_r) rfl rfl (by decide) rfl rfl (Nat.le_of_ble_eq_true rfl) (fun z1 σ1 q1 => ?_)
  refine lw_aload (i := 2) rfl dL_law_329 ?_
  refine lw_aload (i := 0) rfl dL_law_330 ?_
  refine lw_iload (i := 3) rfl dL_law_331 ?_
  refine lw_iconst dL_law_332 ?_
  refine lw_iadd dL_law_333 ?_
  refine lw_sld (by omega) (by omega) hN dL_law_334 ?_
  refine lw_aload (i := 0) rfl dL_law_335 ?_
  refine lw_iload (i := 3) rfl dL_law_336 ?_
  refine lw_iconst dL_law_337 ?_
  refine lw_iadd dL_law_338 ?_
  refine lw_sld (by omega) (by omega) hN dL_law_339 ?_
  refine lw_aload (i := 0) rfl dL_law_340 ?_
  refine lw_iload (i := 3) rfl dL_law_341 ?_
  refine lw_iconst dL_law_342 ?_
  refine lw_iadd dL_law_343 ?_
  refine lw_sld (by omega) (by omega) hN dL_law_344 ?_
  refine lw_mod dL_law_345 cl_L_38 (k_X9_wear hi lx_r lx_r lx_r) rfl rfl (by decide) rfl rfl (Nat.le_of_ble_eq_true rfl) (fun z2 μ1 q2 => ?_)
  exact lw_eq 778 (q1.1.trans q2.1.symm) dL_law_348 (by decide) (k σ1 μ1 (fj_sam (fs_wear hi _ _ _) q2.2) (q1.2.sam q2.2))
set_option maxRecDepth 20000 in
set_option maxHeartbeats 4000000 in
theorem lw_c5 {i : Int} (hN : N ≤ 2560) (h0 : 0 ≤ i) (h5 : i + 5 ≤ (N : Int)) (hi : fj μ) (h : rel μ σ) (k : ∀ σ' μ' : fm_Mem, fj μ' → rel μ' σ' → lw_V l D ct Γ Q b N xs kc km (la1 Γ.2.2.1.heap.size) (la2 Γ.2.2.1.heap.size) σ' μ' 778 [some (.ref b), some (.ref (la1 Γ.2.2.1.heap.size 0)), some (.ref (la2 Γ.2.2.1.heap.size 0)), some (fm_I i)] []) : lw_V l D ct Γ Q b N xs kc km (la1 Γ.2.2.1.heap.size) (la2 Γ.2.2.1.heap.size) σ μ 353 [some (.ref b), some (.ref (la1 Γ.2.2.1.heap.size 0)), some (.ref (la2 Γ.2.2.1.heap.size 0)), some (fm_I i)] [] := by
  refine lw_aload (i := 1) rfl dL_law_353 ?_
  refine lw_aload (i := 0) rfl dL_law_354 ?_
  refine lw_iload (i := 3) rfl dL_law_355 ?_
  refine lw_iconst dL_law_356 ?_
  refine lw_iadd dL_law_357 ?_
  refine lw_sld (by omega) (by omega) hN dL_law_358 ?_
  refine lw_aload (i := 0) rfl dL_law_359 ?_
  refine lw_iload (i := 3) rfl dL_law_360 ?_
  refine lw_iconst dL_law_361 ?_
  refine lw_iadd dL_law_362 ?_
  refine lw_sld (by omega) (by omega) hN dL_law_363 ?_
  refine lw_cls dL_law_364 cl_L_39 (k_X8_place hi h lx_r lx_r) rfl rfl (by decide) rfl rfl (Nat.le_of_ble_eq_true rfl) (fun z1 σ1 q1 => ?_)
  refine lw_aload (i := 2) rfl dL_law_367 ?_
  refine lw_aload (i := 0) rfl dL_law_368 ?_
  refine lw_iload (i := 3) rfl dL_law_369 ?_
  refine lw_iconst dL_law_370 ?_
  refine lw_iadd dL_law_371 ?_
  refine lw_sld (by omega) (by omega) hN dL_law_372 ?_
  refine lw_aload (i := 0) rfl dL_law_373 ?_
  refine lw_iload (i := 3) rfl dL_law_374 ?_
  refine lw_iconst dL_law_375 ?_
  refine lw_iadd dL_law_376 ?_
  refine lw_sld (by omega) (by omega) hN dL_law_377 ?_
  refine lw_mod dL_law_378 cl_L_43 (k_X9_place hi lx_r lx_r) rfl rfl (by decide) rfl rfl (Nat.le_of_ble_eq_true rfl) (fun z2 μ1 q2 => ?_)
  exact lw_eq 778 (q1.1.trans q2.1.symm) dL_law_381 (by decide) (k σ1 μ1 (fj_sam (fs_place hi _ _) q2.2) (q1.2.sam q2.2))
set_option maxRecDepth 20000 in
set_option maxHeartbeats 4000000 in
theorem lw_c6 {i : Int} (hN : N ≤ 2560) (h0 : 0 ≤ i) (h5 : i + 5 ≤ (N : Int)) (hi : fj μ) (h : rel μ σ) (k : ∀ σ' μ' : fm_Mem, fj μ' → rel μ' σ' → lw_V l D ct Γ Q b N xs kc km (la1 Γ.2.2.1.heap.size) (la2 Γ.2.2.1.heap.size) σ' μ' 778 [some (.ref b), some (.ref (la1 Γ.2.2.1.heap.size 0)), some (.ref (la2 Γ.2.2.1.heap.size 0)), some (fm_I i)] []) : lw_V l D ct Γ Q b N xs kc km (la1 Γ.2.2.1.heap.size) (la2 Γ.2.2.1.heap.size) σ μ 386 [some (.ref b), some (.ref (la1 Γ.2.2.1.heap.size 0)), some (.ref (la2 Γ.2.2.1.heap.size 0)), some (fm_I i)] [] := by
  refine lw_aload (i := 1) rfl dL_law_386 ?_
  refine lw_cls dL_law_387 cl_L_44 (k_X8_noScript hi h ) rfl rfl (by decide) rfl rfl (Nat.le_of_ble_eq_true rfl) (fun z1 σ1 q1 => ?_)
  refine lw_aload (i := 2) rfl dL_law_390 ?_
  refine lw_mod dL_law_391 cl_L_47 (k_X9_noScript hi ) rfl rfl (by decide) rfl rfl (Nat.le_of_ble_eq_true rfl) (fun z2 μ1 q2 => ?_)
  exact lw_eq 778 (q1.1.trans q2.1.symm) dL_law_394 (by decide) (k σ1 μ1 (fj_sam (fs_noScript hi) q2.2) (q1.2.sam q2.2))
set_option maxRecDepth 20000 in
set_option maxHeartbeats 4000000 in
theorem lw_c7 {i : Int} (hN : N ≤ 2560) (h0 : 0 ≤ i) (h5 : i + 5 ≤ (N : Int)) (hi : fj μ) (h : rel μ σ) (k : ∀ σ' μ' : fm_Mem, fj μ' → rel μ' σ' → lw_V l D ct Γ Q b N xs kc km (la1 Γ.2.2.1.heap.size) (la2 Γ.2.2.1.heap.size) σ' μ' 778 [some (.ref b), some (.ref (la1 Γ.2.2.1.heap.size 0)), some (.ref (la2 Γ.2.2.1.heap.size 0)), some (fm_I i)] []) : lw_V l D ct Γ Q b N xs kc km (la1 Γ.2.2.1.heap.size) (la2 Γ.2.2.1.heap.size) σ μ 399 [some (.ref b), some (.ref (la1 Γ.2.2.1.heap.size 0)), some (.ref (la2 Γ.2.2.1.heap.size 0)), some (fm_I i)] [] := by
  refine lw_aload (i := 1) rfl dL_law_399 ?_
  refine lw_aload (i := 0) rfl dL_law_400 ?_
  refine lw_iload (i := 3) rfl dL_law_401 ?_
  refine lw_iconst dL_law_402 ?_
  refine lw_iadd dL_law_403 ?_
  refine lw_sld (by omega) (by omega) hN dL_law_404 ?_
  refine lw_aload (i := 0) rfl dL_law_405 ?_
  refine lw_iload (i := 3) rfl dL_law_406 ?_
  refine lw_iconst dL_law_407 ?_
  refine lw_iadd dL_law_408 ?_
  refine lw_sld (by omega) (by omega) hN dL_law_409 ?_
  refine lw_clz dL_law_410 cl_L_48 (k_X8_rule hi h lx_r lx_r) rfl rfl (by decide) rfl rfl (Nat.le_of_ble_eq_true rfl) (fun z1 σ1 q1 => ?_)
  refine lw_aload (i := 2) rfl dL_law_413 ?_
  refine lw_aload (i := 0) rfl dL_law_414 ?_
  refine lw_iload (i := 3) rfl dL_law_415 ?_
  refine lw_iconst dL_law_416 ?_
  refine lw_iadd dL_law_417 ?_
  refine lw_sld (by omega) (by omega) hN dL_law_418 ?_
  refine lw_aload (i := 0) rfl dL_law_419 ?_
  refine lw_iload (i := 3) rfl dL_law_420 ?_
  refine lw_iconst dL_law_421 ?_
  refine lw_iadd dL_law_422 ?_
  refine lw_sld (by omega) (by omega) hN dL_law_423 ?_
  refine lw_mod dL_law_424 cl_L_51 (k_X9_rule hi lx_r lx_r) rfl rfl (by decide) rfl rfl (Nat.le_of_ble_eq_true rfl) (fun z2 μ1 q2 => ?_)
  exact lw_eq 778 (q1.1.trans q2.1.symm) dL_law_427 (by decide) (k σ1 μ1 (fj_sam (fs_rule hi _ _) q2.2) (q1.2.sam q2.2))
set_option maxRecDepth 20000 in
set_option maxHeartbeats 4000000 in
theorem lw_c8 {i : Int} (hN : N ≤ 2560) (h0 : 0 ≤ i) (h5 : i + 5 ≤ (N : Int)) (hi : fj μ) (h : rel μ σ) (k : ∀ σ' μ' : fm_Mem, fj μ' → rel μ' σ' → lw_V l D ct Γ Q b N xs kc km (la1 Γ.2.2.1.heap.size) (la2 Γ.2.2.1.heap.size) σ' μ' 778 [some (.ref b), some (.ref (la1 Γ.2.2.1.heap.size 0)), some (.ref (la2 Γ.2.2.1.heap.size 0)), some (fm_I i)] []) : lw_V l D ct Γ Q b N xs kc km (la1 Γ.2.2.1.heap.size) (la2 Γ.2.2.1.heap.size) σ μ 432 [some (.ref b), some (.ref (la1 Γ.2.2.1.heap.size 0)), some (.ref (la2 Γ.2.2.1.heap.size 0)), some (fm_I i)] [] := by
  refine lw_aload (i := 1) rfl dL_law_432 ?_
  refine lw_aload (i := 0) rfl dL_law_433 ?_
  refine lw_iload (i := 3) rfl dL_law_434 ?_
  refine lw_iconst dL_law_435 ?_
  refine lw_iadd dL_law_436 ?_
  refine lw_sld (by omega) (by omega) hN dL_law_437 ?_
  refine lw_aload (i := 0) rfl dL_law_438 ?_
  refine lw_iload (i := 3) rfl dL_law_439 ?_
  refine lw_iconst dL_law_440 ?_
  refine lw_iadd dL_law_441 ?_
  refine lw_sld (by omega) (by omega) hN dL_law_442 ?_
  refine lw_aload (i := 0) rfl dL_law_443 ?_
  refine lw_iload (i := 3) rfl dL_law_444 ?_
  refine lw_iconst dL_law_445 ?_
  refine lw_iadd dL_law_446 ?_
  refine lw_sld (by omega) (by omega) hN dL_law_447 ?_
  refine lw_cls dL_law_448 cl_L_52 (k_X8_line hi h lx_r lx_r lx_r) rfl rfl (by decide) rfl rfl (Nat.le_of_ble_eq_true rfl) (fun z1 σ1 q1 => ?_)
  refine lw_aload (i := 2) rfl dL_law_451 ?_
  refine lw_aload (i := 0) rfl dL_law_452 ?_
  refine lw_iload (i := 3) rfl dL_law_453 ?_
  refine lw_iconst dL_law_454 ?_
  refine lw_iadd dL_law_455 ?_
  refine lw_sld (by omega) (by omega) hN dL_law_456 ?_
  refine lw_aload (i := 0) rfl dL_law_457 ?_
  refine lw_iload (i := 3) rfl dL_law_458 ?_
  refine lw_iconst dL_law_459 ?_
  refine lw_iadd dL_law_460 ?_
  refine lw_sld (by omega) (by omega) hN dL_law_461 ?_
  refine lw_aload (i := 0) rfl dL_law_462 ?_
  refine lw_iload (i := 3) rfl dL_law_463 ?_
  refine lw_iconst dL_law_464 ?_
  refine lw_iadd dL_law_465 ?_
  refine lw_sld (by omega) (by omega) hN dL_law_466 ?_
  refine lw_mod dL_law_467 cl_L_55 (k_X9_line hi lx_r lx_r lx_r) rfl rfl (by decide) rfl rfl (Nat.le_of_ble_eq_true rfl) (fun z2 μ1 q2 => ?_)
  exact lw_eq 778 (q1.1.trans q2.1.symm) dL_law_470 (by decide) (k σ1 μ1 (fj_sam hi q2.2) (q1.2.sam q2.2))
set_option maxRecDepth 20000 in
set_option maxHeartbeats 4000000 in
theorem lw_c9 {i : Int} (hN : N ≤ 2560) (h0 : 0 ≤ i) (h5 : i + 5 ≤ (N : Int)) (hi : fj μ) (h : rel μ σ) (k : ∀ σ' μ' : fm_Mem, fj μ' → rel μ' σ' → lw_V l D ct Γ Q b N xs kc km (la1 Γ.2.2.1.heap.size) (la2 Γ.2.2.1.heap.size) σ' μ' 778 [some (.ref b), some (.ref (la1 Γ.2.2.1.heap.size 0)), some (.ref (la2 Γ.2.2.1.heap.size 0)), some (fm_I i)] []) : lw_V l D ct Γ Q b N xs kc km (la1 Γ.2.2.1.heap.size) (la2 Γ.2.2.1.heap.size) σ μ 475 [some (.ref b), some (.ref (la1 Γ.2.2.1.heap.size 0)), some (.ref (la2 Γ.2.2.1.heap.size 0)), some (fm_I i)] [] := by
  refine lw_aload (i := 1) rfl dL_law_475 ?_
  refine lw_aload (i := 0) rfl dL_law_476 ?_
  refine lw_iload (i := 3) rfl dL_law_477 ?_
  refine lw_iconst dL_law_478 ?_
  refine lw_iadd dL_law_479 ?_
  refine lw_sld (by omega) (by omega) hN dL_law_480 ?_
  refine lw_aload (i := 0) rfl dL_law_481 ?_
  refine lw_iload (i := 3) rfl dL_law_482 ?_
  refine lw_iconst dL_law_483 ?_
  refine lw_iadd dL_law_484 ?_
  refine lw_sld (by omega) (by omega) hN dL_law_485 ?_
  refine lw_cls dL_law_486 cl_L_56 (k_X8_stands hi h lx_r lx_r) rfl rfl (by decide) rfl rfl (Nat.le_of_ble_eq_true rfl) (fun z1 σ1 q1 => ?_)
  refine lw_aload (i := 2) rfl dL_law_489 ?_
  refine lw_aload (i := 0) rfl dL_law_490 ?_
  refine lw_iload (i := 3) rfl dL_law_491 ?_
  refine lw_iconst dL_law_492 ?_
  refine lw_iadd dL_law_493 ?_
  refine lw_sld (by omega) (by omega) hN dL_law_494 ?_
  refine lw_aload (i := 0) rfl dL_law_495 ?_
  refine lw_iload (i := 3) rfl dL_law_496 ?_
  refine lw_iconst dL_law_497 ?_
  refine lw_iadd dL_law_498 ?_
  refine lw_sld (by omega) (by omega) hN dL_law_499 ?_
  refine lw_mod dL_law_500 cl_L_59 (k_X9_stands hi lx_r lx_r) rfl rfl (by decide) rfl rfl (Nat.le_of_ble_eq_true rfl) (fun z2 μ1 q2 => ?_)
  exact lw_eq 778 (q1.1.trans q2.1.symm) dL_law_503 (by decide) (k σ1 μ1 (fj_sam hi q2.2) (q1.2.sam q2.2))
set_option maxRecDepth 20000 in
set_option maxHeartbeats 4000000 in
theorem lw_c10 {i : Int} (hN : N ≤ 2560) (h0 : 0 ≤ i) (h5 : i + 5 ≤ (N : Int)) (hi : fj μ) (h : rel μ σ) (k : ∀ σ' μ' : fm_Mem, fj μ' → rel μ' σ' → lw_V l D ct Γ Q b N xs kc km (la1 Γ.2.2.1.heap.size) (la2 Γ.2.2.1.heap.size) σ' μ' 778 [some (.ref b), some (.ref (la1 Γ.2.2.1.heap.size 0)), some (.ref (la2 Γ.2.2.1.heap.size 0)), some (fm_I i)] []) : lw_V l D ct Γ Q b N xs kc km (la1 Γ.2.2.1.heap.size) (la2 Γ.2.2.1.heap.size) σ μ 508 [some (.ref b), some (.ref (la1 Γ.2.2.1.heap.size 0)), some (.ref (la2 Γ.2.2.1.heap.size 0)), some (fm_I i)] [] := by
  refine lw_aload (i := 1) rfl dL_law_508 ?_
  refine lw_aload (i := 0) rfl dL_law_509 ?_
  refine lw_iload (i := 3) rfl dL_law_510 ?_
  refine lw_iconst dL_law_511 ?_
  refine lw_iadd dL_law_512 ?_
  refine lw_sld (by omega) (by omega) hN dL_law_513 ?_
  refine lw_cls dL_law_514 cl_L_60 (k_X8_whole hi h lx_r) rfl rfl (by decide) rfl rfl (Nat.le_of_ble_eq_true rfl) (fun z1 σ1 q1 => ?_)
  refine lw_aload (i := 2) rfl dL_law_517 ?_
  refine lw_aload (i := 0) rfl dL_law_518 ?_
  refine lw_iload (i := 3) rfl dL_law_519 ?_
  refine lw_iconst dL_law_520 ?_
  refine lw_iadd dL_law_521 ?_
  refine lw_sld (by omega) (by omega) hN dL_law_522 ?_
  refine lw_mod dL_law_523 cl_L_64 (k_X9_whole hi lx_r) rfl rfl (by decide) rfl rfl (Nat.le_of_ble_eq_true rfl) (fun z2 μ1 q2 => ?_)
  exact lw_eq 778 (q1.1.trans q2.1.symm) dL_law_526 (by decide) (k σ1 μ1 (fj_sam hi q2.2) (q1.2.sam q2.2))
set_option maxRecDepth 20000 in
set_option maxHeartbeats 4000000 in
theorem lw_c11 {i : Int} (hN : N ≤ 2560) (h0 : 0 ≤ i) (h5 : i + 5 ≤ (N : Int)) (hi : fj μ) (h : rel μ σ) (k : ∀ σ' μ' : fm_Mem, fj μ' → rel μ' σ' → lw_V l D ct Γ Q b N xs kc km (la1 Γ.2.2.1.heap.size) (la2 Γ.2.2.1.heap.size) σ' μ' 778 [some (.ref b), some (.ref (la1 Γ.2.2.1.heap.size 0)), some (.ref (la2 Γ.2.2.1.heap.size 0)), some (fm_I i)] []) : lw_V l D ct Γ Q b N xs kc km (la1 Γ.2.2.1.heap.size) (la2 Γ.2.2.1.heap.size) σ μ 531 [some (.ref b), some (.ref (la1 Γ.2.2.1.heap.size 0)), some (.ref (la2 Γ.2.2.1.heap.size 0)), some (fm_I i)] [] := by
  refine lw_aload (i := 1) rfl dL_law_531 ?_
  refine lw_aload (i := 0) rfl dL_law_532 ?_
  refine lw_iload (i := 3) rfl dL_law_533 ?_
  refine lw_iconst dL_law_534 ?_
  refine lw_iadd dL_law_535 ?_
  refine lw_sld (by omega) (by omega) hN dL_law_536 ?_
  refine lw_cls dL_law_537 cl_L_65 (k_X8_about hi h lx_r) rfl rfl (by decide) rfl rfl (Nat.le_of_ble_eq_true rfl) (fun z1 σ1 q1 => ?_)
  refine lw_aload (i := 2) rfl dL_law_540 ?_
  refine lw_aload (i := 0) rfl dL_law_541 ?_
  refine lw_iload (i := 3) rfl dL_law_542 ?_
  refine lw_iconst dL_law_543 ?_
  refine lw_iadd dL_law_544 ?_
  refine lw_sld (by omega) (by omega) hN dL_law_545 ?_
  refine lw_mod dL_law_546 cl_L_68 (k_X9_about hi lx_r) rfl rfl (by decide) rfl rfl (Nat.le_of_ble_eq_true rfl) (fun z2 μ1 q2 => ?_)
  exact lw_eq 778 (q1.1.trans q2.1.symm) dL_law_549 (by decide) (k σ1 μ1 (fj_sam hi q2.2) (q1.2.sam q2.2))
set_option maxRecDepth 20000 in
set_option maxHeartbeats 4000000 in
theorem lw_c12 {i : Int} (hN : N ≤ 2560) (h0 : 0 ≤ i) (h5 : i + 5 ≤ (N : Int)) (hi : fj μ) (h : rel μ σ) (k : ∀ σ' μ' : fm_Mem, fj μ' → rel μ' σ' → lw_V l D ct Γ Q b N xs kc km (la1 Γ.2.2.1.heap.size) (la2 Γ.2.2.1.heap.size) σ' μ' 778 [some (.ref b), some (.ref (la1 Γ.2.2.1.heap.size 0)), some (.ref (la2 Γ.2.2.1.heap.size 0)), some (fm_I i)] []) : lw_V l D ct Γ Q b N xs kc km (la1 Γ.2.2.1.heap.size) (la2 Γ.2.2.1.heap.size) σ μ 554 [some (.ref b), some (.ref (la1 Γ.2.2.1.heap.size 0)), some (.ref (la2 Γ.2.2.1.heap.size 0)), some (fm_I i)] [] := by
  refine lw_aload (i := 1) rfl dL_law_554 ?_
  refine lw_aload (i := 0) rfl dL_law_555 ?_
  refine lw_iload (i := 3) rfl dL_law_556 ?_
  refine lw_iconst dL_law_557 ?_
  refine lw_iadd dL_law_558 ?_
  refine lw_sld (by omega) (by omega) hN dL_law_559 ?_
  refine lw_cls dL_law_560 cl_L_69 (k_X8_mend hi h lx_r) rfl rfl (by decide) rfl rfl (Nat.le_of_ble_eq_true rfl) (fun z1 σ1 q1 => ?_)
  refine lw_aload (i := 2) rfl dL_law_563 ?_
  refine lw_aload (i := 0) rfl dL_law_564 ?_
  refine lw_iload (i := 3) rfl dL_law_565 ?_
  refine lw_iconst dL_law_566 ?_
  refine lw_iadd dL_law_567 ?_
  refine lw_sld (by omega) (by omega) hN dL_law_568 ?_
  refine lw_mod dL_law_569 cl_L_72 (k_X9_mend hi lx_r) rfl rfl (by decide) rfl rfl (Nat.le_of_ble_eq_true rfl) (fun z2 μ1 q2 => ?_)
  exact lw_eq 778 (q1.1.trans q2.1.symm) dL_law_572 (by decide) (k σ1 μ1 (fj_sam (fs_mend hi _) q2.2) (q1.2.sam q2.2))
set_option maxRecDepth 20000 in
set_option maxHeartbeats 4000000 in
theorem lw_c13 {i : Int} (hN : N ≤ 2560) (h0 : 0 ≤ i) (h5 : i + 5 ≤ (N : Int)) (hi : fj μ) (h : rel μ σ) (k : ∀ σ' μ' : fm_Mem, fj μ' → rel μ' σ' → lw_V l D ct Γ Q b N xs kc km (la1 Γ.2.2.1.heap.size) (la2 Γ.2.2.1.heap.size) σ' μ' 778 [some (.ref b), some (.ref (la1 Γ.2.2.1.heap.size 0)), some (.ref (la2 Γ.2.2.1.heap.size 0)), some (fm_I i)] []) : lw_V l D ct Γ Q b N xs kc km (la1 Γ.2.2.1.heap.size) (la2 Γ.2.2.1.heap.size) σ μ 577 [some (.ref b), some (.ref (la1 Γ.2.2.1.heap.size 0)), some (.ref (la2 Γ.2.2.1.heap.size 0)), some (fm_I i)] [] := by
  refine lw_aload (i := 1) rfl dL_law_577 ?_
  refine lw_aload (i := 0) rfl dL_law_578 ?_
  refine lw_iload (i := 3) rfl dL_law_579 ?_
  refine lw_iconst dL_law_580 ?_
  refine lw_iadd dL_law_581 ?_
  refine lw_sld (by omega) (by omega) hN dL_law_582 ?_
  refine lw_aload (i := 0) rfl dL_law_583 ?_
  refine lw_iload (i := 3) rfl dL_law_584 ?_
  refine lw_iconst dL_law_585 ?_
  refine lw_iadd dL_law_586 ?_
  refine lw_sld (by omega) (by omega) hN dL_law_587 ?_
  refine lw_aload (i := 0) rfl dL_law_588 ?_
  refine lw_iload (i := 3) rfl dL_law_589 ?_
  refine lw_iconst dL_law_590 ?_
  refine lw_iadd dL_law_591 ?_
  refine lw_sld (by omega) (by omega) hN dL_law_592 ?_
  refine lw_aload (i := 0) rfl dL_law_593 ?_
  refine lw_iload (i := 3) rfl dL_law_594 ?_
  refine lw_iconst dL_law_595 ?_
  refine lw_iadd dL_law_596 ?_
  refine lw_sld (by omega) (by omega) hN dL_law_597 ?_
  refine lw_cls dL_law_598 cl_L_73 (k_X8_note hi h lx_r lx_r lx_r lx_r) rfl rfl (by decide) rfl rfl (Nat.le_of_ble_eq_true rfl) (fun z1 σ1 q1 => ?_)
  refine lw_aload (i := 2) rfl dL_law_601 ?_
  refine lw_aload (i := 0) rfl dL_law_602 ?_
  refine lw_iload (i := 3) rfl dL_law_603 ?_
  refine lw_iconst dL_law_604 ?_
  refine lw_iadd dL_law_605 ?_
  refine lw_sld (by omega) (by omega) hN dL_law_606 ?_
  refine lw_aload (i := 0) rfl dL_law_607 ?_
  refine lw_iload (i := 3) rfl dL_law_608 ?_
  refine lw_iconst dL_law_609 ?_
  refine lw_iadd dL_law_610 ?_
  refine lw_sld (by omega) (by omega) hN dL_law_611 ?_
  refine lw_aload (i := 0) rfl dL_law_612 ?_
  refine lw_iload (i := 3) rfl dL_law_613 ?_
  refine lw_iconst dL_law_614 ?_
  refine lw_iadd dL_law_615 ?_
  refine lw_sld (by omega) (by omega) hN dL_law_616 ?_
  refine lw_aload (i := 0) rfl dL_law_617 ?_
  refine lw_iload (i := 3) rfl dL_law_618 ?_
  refine lw_iconst dL_law_619 ?_
  refine lw_iadd dL_law_620 ?_
  refine lw_sld (by omega) (by omega) hN dL_law_621 ?_
  refine lw_mod dL_law_622 cl_L_76 (k_X9_note hi lx_r lx_r lx_r lx_r) rfl rfl (by decide) rfl rfl (Nat.le_of_ble_eq_true rfl) (fun z2 μ1 q2 => ?_)
  exact lw_eq 778 (q1.1.trans q2.1.symm) dL_law_625 (by decide) (k σ1 μ1 (fj_sam (fs_note hi _ _ _ _) q2.2) (q1.2.sam q2.2))
set_option maxRecDepth 20000 in
set_option maxHeartbeats 4000000 in
theorem lw_c14 {i : Int} (hN : N ≤ 2560) (h0 : 0 ≤ i) (h5 : i + 5 ≤ (N : Int)) (hi : fj μ) (h : rel μ σ) (k : ∀ σ' μ' : fm_Mem, fj μ' → rel μ' σ' → lw_V l D ct Γ Q b N xs kc km (la1 Γ.2.2.1.heap.size) (la2 Γ.2.2.1.heap.size) σ' μ' 778 [some (.ref b), some (.ref (la1 Γ.2.2.1.heap.size 0)), some (.ref (la2 Γ.2.2.1.heap.size 0)), some (fm_I i)] []) : lw_V l D ct Γ Q b N xs kc km (la1 Γ.2.2.1.heap.size) (la2 Γ.2.2.1.heap.size) σ μ 630 [some (.ref b), some (.ref (la1 Γ.2.2.1.heap.size 0)), some (.ref (la2 Γ.2.2.1.heap.size 0)), some (fm_I i)] [] := by
  refine lw_aload (i := 1) rfl dL_law_630 ?_
  refine lw_aload (i := 0) rfl dL_law_631 ?_
  refine lw_iload (i := 3) rfl dL_law_632 ?_
  refine lw_iconst dL_law_633 ?_
  refine lw_iadd dL_law_634 ?_
  refine lw_sld (by omega) (by omega) hN dL_law_635 ?_
  refine lw_cls dL_law_636 cl_L_77 (k_X8_tint hi h lx_r) rfl rfl (by decide) rfl rfl (Nat.le_of_ble_eq_true rfl) (fun z1 σ1 q1 => ?_)
  refine lw_aload (i := 2) rfl dL_law_639 ?_
  refine lw_aload (i := 0) rfl dL_law_640 ?_
  refine lw_iload (i := 3) rfl dL_law_641 ?_
  refine lw_iconst dL_law_642 ?_
  refine lw_iadd dL_law_643 ?_
  refine lw_sld (by omega) (by omega) hN dL_law_644 ?_
  refine lw_mod dL_law_645 cl_L_80 (k_X9_tint hi lx_r) rfl rfl (by decide) rfl rfl (Nat.le_of_ble_eq_true rfl) (fun z2 μ1 q2 => ?_)
  exact lw_eq 778 (q1.1.trans q2.1.symm) dL_law_648 (by decide) (k σ1 μ1 (fj_sam hi q2.2) (q1.2.sam q2.2))
set_option maxRecDepth 20000 in
set_option maxHeartbeats 4000000 in
theorem lw_c15 {i : Int} (hN : N ≤ 2560) (h0 : 0 ≤ i) (h5 : i + 5 ≤ (N : Int)) (hi : fj μ) (h : rel μ σ) (k : ∀ σ' μ' : fm_Mem, fj μ' → rel μ' σ' → lw_V l D ct Γ Q b N xs kc km (la1 Γ.2.2.1.heap.size) (la2 Γ.2.2.1.heap.size) σ' μ' 778 [some (.ref b), some (.ref (la1 Γ.2.2.1.heap.size 0)), some (.ref (la2 Γ.2.2.1.heap.size 0)), some (fm_I i)] []) : lw_V l D ct Γ Q b N xs kc km (la1 Γ.2.2.1.heap.size) (la2 Γ.2.2.1.heap.size) σ μ 653 [some (.ref b), some (.ref (la1 Γ.2.2.1.heap.size 0)), some (.ref (la2 Γ.2.2.1.heap.size 0)), some (fm_I i)] [] := by
  refine lw_aload (i := 1) rfl dL_law_653 ?_
  refine lw_aload (i := 0) rfl dL_law_654 ?_
  refine lw_iload (i := 3) rfl dL_law_655 ?_
  refine lw_iconst dL_law_656 ?_
  refine lw_iadd dL_law_657 ?_
  refine lw_sld (by omega) (by omega) hN dL_law_658 ?_
  refine lw_aload (i := 0) rfl dL_law_659 ?_
  refine lw_iload (i := 3) rfl dL_law_660 ?_
  refine lw_iconst dL_law_661 ?_
  refine lw_iadd dL_law_662 ?_
  refine lw_sld (by omega) (by omega) hN dL_law_663 ?_
  refine lw_aload (i := 0) rfl dL_law_664 ?_
  refine lw_iload (i := 3) rfl dL_law_665 ?_
  refine lw_iconst dL_law_666 ?_
  refine lw_iadd dL_law_667 ?_
  refine lw_sld (by omega) (by omega) hN dL_law_668 ?_
  refine lw_cls dL_law_669 cl_L_81 (k_X8_cue hi h lx_r lx_r lx_r) rfl rfl (by decide) rfl rfl (Nat.le_of_ble_eq_true rfl) (fun z1 σ1 q1 => ?_)
  refine lw_aload (i := 2) rfl dL_law_672 ?_
  refine lw_aload (i := 0) rfl dL_law_673 ?_
  refine lw_iload (i := 3) rfl dL_law_674 ?_
  refine lw_iconst dL_law_675 ?_
  refine lw_iadd dL_law_676 ?_
  refine lw_sld (by omega) (by omega) hN dL_law_677 ?_
  refine lw_aload (i := 0) rfl dL_law_678 ?_
  refine lw_iload (i := 3) rfl dL_law_679 ?_
  refine lw_iconst dL_law_680 ?_
  refine lw_iadd dL_law_681 ?_
  refine lw_sld (by omega) (by omega) hN dL_law_682 ?_
  refine lw_aload (i := 0) rfl dL_law_683 ?_
  refine lw_iload (i := 3) rfl dL_law_684 ?_
  refine lw_iconst dL_law_685 ?_
  refine lw_iadd dL_law_686 ?_
  refine lw_sld (by omega) (by omega) hN dL_law_687 ?_
  refine lw_mod dL_law_688 cl_L_84 (k_X9_cue hi lx_r lx_r lx_r) rfl rfl (by decide) rfl rfl (Nat.le_of_ble_eq_true rfl) (fun z2 μ1 q2 => ?_)
  exact lw_eq 778 (q1.1.trans q2.1.symm) dL_law_691 (by decide) (k σ1 μ1 (fj_sam (fs_cue hi _ _ _) q2.2) (q1.2.sam q2.2))
set_option maxRecDepth 20000 in
set_option maxHeartbeats 4000000 in
theorem lw_c16 {i : Int} (hN : N ≤ 2560) (h0 : 0 ≤ i) (h5 : i + 5 ≤ (N : Int)) (hi : fj μ) (h : rel μ σ) (k : ∀ σ' μ' : fm_Mem, fj μ' → rel μ' σ' → lw_V l D ct Γ Q b N xs kc km (la1 Γ.2.2.1.heap.size) (la2 Γ.2.2.1.heap.size) σ' μ' 778 [some (.ref b), some (.ref (la1 Γ.2.2.1.heap.size 0)), some (.ref (la2 Γ.2.2.1.heap.size 0)), some (fm_I i)] []) : lw_V l D ct Γ Q b N xs kc km (la1 Γ.2.2.1.heap.size) (la2 Γ.2.2.1.heap.size) σ μ 696 [some (.ref b), some (.ref (la1 Γ.2.2.1.heap.size 0)), some (.ref (la2 Γ.2.2.1.heap.size 0)), some (fm_I i)] [] := by
  refine lw_aload (i := 1) rfl dL_law_696 ?_
  refine lw_cls dL_law_697 cl_L_85 (k_X8_noCues hi h ) rfl rfl (by decide) rfl rfl (Nat.le_of_ble_eq_true rfl) (fun z1 σ1 q1 => ?_)
  refine lw_aload (i := 2) rfl dL_law_700 ?_
  refine lw_mod dL_law_701 cl_L_88 (k_X9_noCues hi ) rfl rfl (by decide) rfl rfl (Nat.le_of_ble_eq_true rfl) (fun z2 μ1 q2 => ?_)
  exact lw_eq 778 (q1.1.trans q2.1.symm) dL_law_704 (by decide) (k σ1 μ1 (fj_sam (fs_noCues hi) q2.2) (q1.2.sam q2.2))
set_option maxRecDepth 20000 in
set_option maxHeartbeats 4000000 in
theorem lw_c17 {i : Int} (hN : N ≤ 2560) (h0 : 0 ≤ i) (h5 : i + 5 ≤ (N : Int)) (hi : fj μ) (h : rel μ σ) (k : ∀ σ' μ' : fm_Mem, fj μ' → rel μ' σ' → lw_V l D ct Γ Q b N xs kc km (la1 Γ.2.2.1.heap.size) (la2 Γ.2.2.1.heap.size) σ' μ' 778 [some (.ref b), some (.ref (la1 Γ.2.2.1.heap.size 0)), some (.ref (la2 Γ.2.2.1.heap.size 0)), some (fm_I i)] []) : lw_V l D ct Γ Q b N xs kc km (la1 Γ.2.2.1.heap.size) (la2 Γ.2.2.1.heap.size) σ μ 709 [some (.ref b), some (.ref (la1 Γ.2.2.1.heap.size 0)), some (.ref (la2 Γ.2.2.1.heap.size 0)), some (fm_I i)] [] := by
  refine lw_aload (i := 1) rfl dL_law_709 ?_
  refine lw_aload (i := 0) rfl dL_law_710 ?_
  refine lw_iload (i := 3) rfl dL_law_711 ?_
  refine lw_iconst dL_law_712 ?_
  refine lw_iadd dL_law_713 ?_
  refine lw_sld (by omega) (by omega) hN dL_law_714 ?_
  refine lw_aload (i := 0) rfl dL_law_715 ?_
  refine lw_iload (i := 3) rfl dL_law_716 ?_
  refine lw_iconst dL_law_717 ?_
  refine lw_iadd dL_law_718 ?_
  refine lw_sld (by omega) (by omega) hN dL_law_719 ?_
  refine lw_cls dL_law_720 cl_L_89 (k_X8_order hi h lx_r lx_r) rfl rfl (by decide) rfl rfl (Nat.le_of_ble_eq_true rfl) (fun z1 σ1 q1 => ?_)
  refine lw_aload (i := 2) rfl dL_law_723 ?_
  refine lw_aload (i := 0) rfl dL_law_724 ?_
  refine lw_iload (i := 3) rfl dL_law_725 ?_
  refine lw_iconst dL_law_726 ?_
  refine lw_iadd dL_law_727 ?_
  refine lw_sld (by omega) (by omega) hN dL_law_728 ?_
  refine lw_aload (i := 0) rfl dL_law_729 ?_
  refine lw_iload (i := 3) rfl dL_law_730 ?_
  refine lw_iconst dL_law_731 ?_
  refine lw_iadd dL_law_732 ?_
  refine lw_sld (by omega) (by omega) hN dL_law_733 ?_
  refine lw_mod dL_law_734 cl_L_92 (k_X9_order hi lx_r lx_r) rfl rfl (by decide) rfl rfl (Nat.le_of_ble_eq_true rfl) (fun z2 μ1 q2 => ?_)
  exact lw_eq 778 (q1.1.trans q2.1.symm) dL_law_737 (by decide) (k σ1 μ1 (fj_sam hi q2.2) (q1.2.sam q2.2))
set_option maxRecDepth 20000 in
set_option maxHeartbeats 4000000 in
theorem lw_c18 {i : Int} (hN : N ≤ 2560) (h0 : 0 ≤ i) (h5 : i + 5 ≤ (N : Int)) (hi : fj μ) (h : rel μ σ) (k : ∀ σ' μ' : fm_Mem, fj μ' → rel μ' σ' → lw_V l D ct Γ Q b N xs kc km (la1 Γ.2.2.1.heap.size) (la2 Γ.2.2.1.heap.size) σ' μ' 778 [some (.ref b), some (.ref (la1 Γ.2.2.1.heap.size 0)), some (.ref (la2 Γ.2.2.1.heap.size 0)), some (fm_I i)] []) : lw_V l D ct Γ Q b N xs kc km (la1 Γ.2.2.1.heap.size) (la2 Γ.2.2.1.heap.size) σ μ 742 [some (.ref b), some (.ref (la1 Γ.2.2.1.heap.size 0)), some (.ref (la2 Γ.2.2.1.heap.size 0)), some (fm_I i)] [] := by
  refine lw_aload (i := 1) rfl dL_law_742 ?_
  refine lw_cls dL_law_743 cl_L_93 (k_X8_undo hi h ) rfl rfl (by decide) rfl rfl (Nat.le_of_ble_eq_true rfl) (fun z1 σ1 q1 => ?_)
  refine lw_aload (i := 2) rfl dL_law_746 ?_
  refine lw_mod dL_law_747 cl_L_96 (k_X9_undo hi ) rfl rfl (by decide) rfl rfl (Nat.le_of_ble_eq_true rfl) (fun z2 μ1 q2 => ?_)
  exact lw_eq 778 (q1.1.trans q2.1.symm) dL_law_750 (by decide) (k σ1 μ1 (fj_sam (fs_undo hi) q2.2) (q1.2.sam q2.2))
set_option maxRecDepth 20000 in
set_option maxHeartbeats 4000000 in
theorem lw_c19 {i : Int} (hN : N ≤ 2560) (h0 : 0 ≤ i) (h5 : i + 5 ≤ (N : Int)) (hi : fj μ) (h : rel μ σ) (k : ∀ σ' μ' : fm_Mem, fj μ' → rel μ' σ' → lw_V l D ct Γ Q b N xs kc km (la1 Γ.2.2.1.heap.size) (la2 Γ.2.2.1.heap.size) σ' μ' 778 [some (.ref b), some (.ref (la1 Γ.2.2.1.heap.size 0)), some (.ref (la2 Γ.2.2.1.heap.size 0)), some (fm_I i)] []) : lw_V l D ct Γ Q b N xs kc km (la1 Γ.2.2.1.heap.size) (la2 Γ.2.2.1.heap.size) σ μ 755 [some (.ref b), some (.ref (la1 Γ.2.2.1.heap.size 0)), some (.ref (la2 Γ.2.2.1.heap.size 0)), some (fm_I i)] [] := by
  refine lw_aload (i := 1) rfl dL_law_755 ?_
  refine lw_aload (i := 0) rfl dL_law_756 ?_
  refine lw_iload (i := 3) rfl dL_law_757 ?_
  refine lw_iconst dL_law_758 ?_
  refine lw_iadd dL_law_759 ?_
  refine lw_sld (by omega) (by omega) hN dL_law_760 ?_
  refine lw_cls dL_law_761 cl_L_97 (k_X8_count hi h lx_r) rfl rfl (by decide) rfl rfl (Nat.le_of_ble_eq_true rfl) (fun z1 σ1 q1 => ?_)
  refine lw_aload (i := 2) rfl dL_law_764 ?_
  refine lw_aload (i := 0) rfl dL_law_765 ?_
  refine lw_iload (i := 3) rfl dL_law_766 ?_
  refine lw_iconst dL_law_767 ?_
  refine lw_iadd dL_law_768 ?_
  refine lw_sld (by omega) (by omega) hN dL_law_769 ?_
  refine lw_mod dL_law_770 cl_L_100 (k_X9_count hi lx_r) rfl rfl (by decide) rfl rfl (Nat.le_of_ble_eq_true rfl) (fun z2 μ1 q2 => ?_)
  exact lw_eq 778 (q1.1.trans q2.1.symm) dL_law_773 (by decide) (k σ1 μ1 (fj_sam hi q2.2) (q1.2.sam q2.2))
end LWB
