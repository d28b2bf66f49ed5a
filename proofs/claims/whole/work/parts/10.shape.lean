/-! the shapes: kc, the cells of a FilmWhole; km, the cells of a FilmWholeModel -/
def kc_sh (k : Nat) : Nat ⊕ (Nat × Nat) ⊕ Nat :=
  if k < 27 then (match k with
    | 0 => .inr (.inr 7) | 1 => .inr (.inl (1, 6)) | 2 => .inr (.inr 4) | 3 => .inl 40 | 4 => .inl 40 | 5 => .inl 4 | 6 => .inr (.inr 1) | 7 => .inr (.inl (2, 41)) | 8 => .inl 40 | 9 => .inr (.inr 5)
    | 10 => .inr (.inl (2, 6)) | 11 => .inr (.inl (2, 40)) | 12 => .inl 40 | 13 => .inr (.inr 2) | 14 => .inl 12 | 15 => .inl 12 | 16 => .inl 12 | 17 => .inl 12 | 18 => .inr (.inr 0) | 19 => .inr (.inl (2, 6))
    | 20 => .inl 64 | 21 => .inl 64 | 22 => .inl 6 | 23 => .inr (.inr 6) | _ => .inl 30)
  else if k < 33 then .inr (.inr 3) else if k < 51 then .inl 40 else if k < 57 then .inl 6 else if k < 63 then .inl 40 else if k < 104 then .inl 41 else .inl 7
def kc_kid (k j : Nat) : Nat := match k with
  | 0 => (match j with | 0 => 1 | 2 => 2 | 3 => 5 | 4 => 6 | 5 => 9 | 6 => 13 | 7 => 18 | _ => 23)
  | 1 => 27 + j
  | 2 => 3 + j
  | 6 => 7 + j
  | 7 => 63 + j
  | 9 => (match j with | 0 => 2 | 1 => 1 | 2 => 5 | 3 => 6 | 4 => 10 | 5 => 11 | _ => 12)
  | 10 => 57 + j
  | 11 => 104 + j
  | 13 => 14 + j
  | 18 => 19 + j
  | 19 => 51 + j
  | 23 => 24 + j
  | k => k + 6 + 6 * j
def ks_nf (c : Nat) : Nat := match c with | 0 => 5 | 1 => 2 | 2 => 5 | 3 => 4 | 4 => 3 | 5 => 8 | 6 => 4 | 7 => 9 | _ => 25
def ks_isr (c j : Nat) : Bool := match c with | 0 => decide (j < 4) | 1 => true | 2 => decide (j < 4) | 3 => decide (j < 3) | 4 => decide (j < 2) | 5 => decide (j < 7) | 6 => decide (j < 3) | 7 => decide (j ≠ 1) | _ => decide (j ≠ 0 ∧ j ≠ 7 ∧ j ≠ 12 ∧ j ≠ 16)
def kc : fm_Sh := (144, kc_sh, kc_kid, ks_nf, ks_isr)
def km_sh (k : Nat) : Nat ⊕ (Nat × Nat) ⊕ Nat := match k with
  | 0 => .inr (.inr 8) | 1 => .inl 7 | 2 => .inl 280 | 3 => .inl 240 | 4 => .inl 240 | 5 => .inl 40 | 6 => .inl 4 | 7 => .inl 12 | 8 => .inl 12 | 9 => .inl 12 | 10 => .inl 12 | 11 => .inl 20 | 12 => .inl 20 | 13 => .inl 20 | 14 => .inl 30 | 15 => .inl 30
  | 16 => .inl 1681 | 17 => .inl 40 | 18 => .inl 240 | 19 => .inl 280 | 20 => .inl 40 | _ => .inl 6
def km_kid (_ j : Nat) : Nat := if j < 7 then j else if j < 12 then j - 1 else if j < 16 then j - 2 else j - 3
def km : fm_Sh := (22, km_sh, km_kid, ks_nf, ks_isr)
theorem ia_3 : fm_ia kc 3 40 := by unfold fm_ia; decide +kernel
theorem ia_4 : fm_ia kc 4 40 := by unfold fm_ia; decide +kernel
theorem ia_5 : fm_ia kc 5 4 := by unfold fm_ia; decide +kernel
theorem ia_8 : fm_ia kc 8 40 := by unfold fm_ia; decide +kernel
theorem ia_12 : fm_ia kc 12 40 := by unfold fm_ia; decide +kernel
theorem ia_14 : fm_ia kc 14 12 := by unfold fm_ia; decide +kernel
theorem ia_15 : fm_ia kc 15 12 := by unfold fm_ia; decide +kernel
theorem ia_16 : fm_ia kc 16 12 := by unfold fm_ia; decide +kernel
theorem ia_17 : fm_ia kc 17 12 := by unfold fm_ia; decide +kernel
theorem ia_20 : fm_ia kc 20 64 := by unfold fm_ia; decide +kernel
theorem ia_21 : fm_ia kc 21 64 := by unfold fm_ia; decide +kernel
theorem ia_22 : fm_ia kc 22 6 := by unfold fm_ia; decide +kernel
theorem ia_24 : fm_ia kc 24 30 := by unfold fm_ia; decide +kernel
theorem ia_25 : fm_ia kc 25 30 := by unfold fm_ia; decide +kernel
theorem ia_26 : fm_ia kc 26 30 := by unfold fm_ia; decide +kernel
theorem ob_0 : fm_ob kc 0 7 := by unfold fm_ob; decide +kernel
theorem ob_2 : fm_ob kc 2 4 := by unfold fm_ob; decide +kernel
theorem ob_6 : fm_ob kc 6 1 := by unfold fm_ob; decide +kernel
theorem ob_9 : fm_ob kc 9 5 := by unfold fm_ob; decide +kernel
theorem ob_13 : fm_ob kc 13 2 := by unfold fm_ob; decide +kernel
theorem ob_18 : fm_ob kc 18 0 := by unfold fm_ob; decide +kernel
theorem ob_23 : fm_ob kc 23 6 := by unfold fm_ob; decide +kernel
theorem ia_rm {c : Nat} (h : c < 6) : fm_ia kc (33 + c) 40 := (by unfold fm_ia; decide +kernel : ∀ c, c < 6 → fm_ia kc (33 + c) 40) c h
theorem ia_rw {c : Nat} (h : c < 6) : fm_ia kc (39 + c) 40 := (by unfold fm_ia; decide +kernel : ∀ c, c < 6 → fm_ia kc (39 + c) 40) c h
theorem ia_rc {c : Nat} (h : c < 6) : fm_ia kc (45 + c) 40 := (by unfold fm_ia; decide +kernel : ∀ c, c < 6 → fm_ia kc (45 + c) 40) c h
theorem ia_wt {c : Nat} (h : c < 6) : fm_ia kc (51 + c) 6 := (by unfold fm_ia; decide +kernel : ∀ c, c < 6 → fm_ia kc (51 + c) 6) c h
theorem ia_sd {c : Nat} (h : c < 6) : fm_ia kc (57 + c) 40 := (by unfold fm_ia; decide +kernel : ∀ c, c < 6 → fm_ia kc (57 + c) 40) c h
theorem ia_ll {c : Nat} (h : c < 41) : fm_ia kc (63 + c) 41 := (by unfold fm_ia; decide +kernel : ∀ c, c < 41 → fm_ia kc (63 + c) 41) c h
theorem ia_sl {c : Nat} (h : c < 40) : fm_ia kc (104 + c) 7 := (by unfold fm_ia; decide +kernel : ∀ c, c < 40 → fm_ia kc (104 + c) 7) c h
theorem ob_reel {c : Nat} (h : c < 6) : fm_ob kc (27 + c) 3 := (by unfold fm_ob; decide +kernel : ∀ c, c < 6 → fm_ob kc (27 + c) 3) c h
theorem ma_1 : fm_ia km 1 7 := by unfold fm_ia; decide +kernel
theorem ma_2 : fm_ia km 2 280 := by unfold fm_ia; decide +kernel
theorem ma_3 : fm_ia km 3 240 := by unfold fm_ia; decide +kernel
theorem ma_4 : fm_ia km 4 240 := by unfold fm_ia; decide +kernel
theorem ma_5 : fm_ia km 5 40 := by unfold fm_ia; decide +kernel
theorem ma_6 : fm_ia km 6 4 := by unfold fm_ia; decide +kernel
theorem ma_7 : fm_ia km 7 12 := by unfold fm_ia; decide +kernel
theorem ma_8 : fm_ia km 8 12 := by unfold fm_ia; decide +kernel
theorem ma_9 : fm_ia km 9 12 := by unfold fm_ia; decide +kernel
theorem ma_10 : fm_ia km 10 12 := by unfold fm_ia; decide +kernel
theorem ma_11 : fm_ia km 11 20 := by unfold fm_ia; decide +kernel
theorem ma_12 : fm_ia km 12 20 := by unfold fm_ia; decide +kernel
theorem ma_13 : fm_ia km 13 20 := by unfold fm_ia; decide +kernel
theorem ma_14 : fm_ia km 14 30 := by unfold fm_ia; decide +kernel
theorem ma_15 : fm_ia km 15 30 := by unfold fm_ia; decide +kernel
theorem ma_16 : fm_ia km 16 1681 := by unfold fm_ia; decide +kernel
theorem ma_17 : fm_ia km 17 40 := by unfold fm_ia; decide +kernel
theorem ma_18 : fm_ia km 18 240 := by unfold fm_ia; decide +kernel
theorem ma_19 : fm_ia km 19 280 := by unfold fm_ia; decide +kernel
theorem ma_20 : fm_ia km 20 40 := by unfold fm_ia; decide +kernel
theorem ma_21 : fm_ia km 21 6 := by unfold fm_ia; decide +kernel
theorem mb_0 : fm_ob km 0 8 := by unfold fm_ob; decide +kernel
def fm_pI (Q : Int → fm_Mem → Prop) : Option Value → fm_Mem → Prop := fun v σ' => ∃ z, v = some (fm_I z) ∧ Q z σ'
def fm_pN (Q : fm_Mem → Prop) : Option Value → fm_Mem → Prop := fun v σ' => v = none ∧ Q σ'
def fm_pR (ω : fm_O) (Q : Nat → fm_Mem → Prop) : Option Value → fm_Mem → Prop := fun v σ' => ∃ k, v = some (fm_r ω k) ∧ Q k σ'
section FMC
variable {S : fm_Sh} {ω : fm_O} {Γ : fm_G} {M : fm_M} {P : Option Value → fm_Mem → Prop} {σ : fm_Mem} {pc : Nat} {L : List (Option Value)} {st : List Value}
theorem fm_iretI {z : Int} {Q : Int → fm_Mem → Prop} (hd : decode M.1 pc = .ok (.ireturn, 1)) (hr : M.2.2.2.2 = some .int) (h : Q z σ) : fm_W S ω Γ M (fm_pI Q) σ pc L [fm_I z] := fm_iret hd hr ⟨z, rfl, h⟩
theorem fm_zretI {z : Int} {Q : Int → fm_Mem → Prop} (hd : decode M.1 pc = .ok (.ireturn, 1)) (hr : M.2.2.2.2 = some .boolean) (hz : z = 0 ∨ z = 1) (h : Q z σ) : fm_W S ω Γ M (fm_pI Q) σ pc L [fm_I z] := fm_zret hd hr hz ⟨z, rfl, h⟩
theorem fm_vretN {Q : fm_Mem → Prop} (hd : decode M.1 pc = .ok (.return_, 1)) (hr : M.2.2.2.2 = none) (h : Q σ) : fm_W S ω Γ M (fm_pN Q) σ pc L [] := fm_vret hd hr ⟨rfl, h⟩
theorem fm_aretR {k0 : Nat} {rt : FieldType} {Q : Nat → fm_Mem → Prop} (hd : decode M.1 pc = .ok (.areturn, 1)) (hr : M.2.2.2.2 = some (.array rt)) (h : Q k0 σ) : fm_W S ω Γ M (fm_pR ω Q) σ pc L [fm_r ω k0] := fm_aret hd hr ⟨k0, rfl, h⟩

theorem fm_cvI {Q : Int → fm_Mem → Prop} {y : MethodName} {rm : Room} {b ci idx maxL n : Nat} {bytes : ByteArray} {ret : Option FieldType} {As rest : List Value} (hd : decode M.1 pc = .ok (.invokevirtual idx, 3)) (hc : fm_CV M.2.1 idx ci y bytes maxL ret n) (hM : fm_Met S ω y bytes maxL ret rm (fm_r ω b :: As) σ (fm_pI Q)) (ho : fm_ob S b ci) (hrc : rm.cells = 0) (hrs : rm.slots = 0)
    (hR : rm.frames + 1 ≤ M.2.2.1.frames ∧ 8 + (maxL + 11) + rm.locals ≤ M.2.2.1.locals) (hn : As.length = n) (hst : st = As.reverse ++ fm_r ω b :: rest) (hW : (rest.map fun v => v.category).sum ≤ 8)
    (kk : ∀ (z : Int) (σ' : fm_Mem), Q z σ' → fm_W S ω Γ M P σ' (pc + 3) L (fm_I z :: rest)) : fm_W S ω Γ M P σ pc L st := fm_callV hd hc hM ho hrc hrs hR hn hst hW (fun v σ' h => by obtain ⟨z, rfl, h2⟩ := h; exact kk z σ' h2)
theorem fm_csI {Q : Int → fm_Mem → Prop} {y : MethodName} {rm : Room} {idx maxL n : Nat} {bytes : ByteArray} {ret : Option FieldType} {As rest : List Value} (hd : decode M.1 pc = .ok (.invokestatic idx, 3)) (hc : fm_CS M.2.1 idx y bytes maxL ret n) (hM : fm_Met S ω y bytes maxL ret rm As σ (fm_pI Q)) (hrc : rm.cells = 0) (hrs : rm.slots = 0)
    (hR : rm.frames + 1 ≤ M.2.2.1.frames ∧ 8 + (maxL + 11) + rm.locals ≤ M.2.2.1.locals) (hn : As.length = n) (hst : st = As.reverse ++ rest) (hW : (rest.map fun v => v.category).sum ≤ 8)
    (kk : ∀ (z : Int) (σ' : fm_Mem), Q z σ' → fm_W S ω Γ M P σ' (pc + 3) L (fm_I z :: rest)) : fm_W S ω Γ M P σ pc L st := fm_callS hd hc hM hrc hrs hR hn hst hW (fun v σ' h => by obtain ⟨z, rfl, h2⟩ := h; exact kk z σ' h2)
theorem fm_cvN {Q : fm_Mem → Prop} {y : MethodName} {rm : Room} {b ci idx maxL n : Nat} {bytes : ByteArray} {ret : Option FieldType} {As rest : List Value} (hd : decode M.1 pc = .ok (.invokevirtual idx, 3)) (hc : fm_CV M.2.1 idx ci y bytes maxL ret n) (hM : fm_Met S ω y bytes maxL ret rm (fm_r ω b :: As) σ (fm_pN Q)) (ho : fm_ob S b ci) (hrc : rm.cells = 0) (hrs : rm.slots = 0)
    (hR : rm.frames + 1 ≤ M.2.2.1.frames ∧ 8 + (maxL + 11) + rm.locals ≤ M.2.2.1.locals) (hn : As.length = n) (hst : st = As.reverse ++ fm_r ω b :: rest) (hW : (rest.map fun v => v.category).sum ≤ 8)
    (kk : ∀  (σ' : fm_Mem), Q σ' → fm_W S ω Γ M P σ' (pc + 3) L (rest)) : fm_W S ω Γ M P σ pc L st := fm_callV hd hc hM ho hrc hrs hR hn hst hW (fun v σ' h => by obtain ⟨rfl, h2⟩ := h; exact kk σ' h2)
theorem fm_csN {Q : fm_Mem → Prop} {y : MethodName} {rm : Room} {idx maxL n : Nat} {bytes : ByteArray} {ret : Option FieldType} {As rest : List Value} (hd : decode M.1 pc = .ok (.invokestatic idx, 3)) (hc : fm_CS M.2.1 idx y bytes maxL ret n) (hM : fm_Met S ω y bytes maxL ret rm As σ (fm_pN Q)) (hrc : rm.cells = 0) (hrs : rm.slots = 0)
    (hR : rm.frames + 1 ≤ M.2.2.1.frames ∧ 8 + (maxL + 11) + rm.locals ≤ M.2.2.1.locals) (hn : As.length = n) (hst : st = As.reverse ++ rest) (hW : (rest.map fun v => v.category).sum ≤ 8)
    (kk : ∀  (σ' : fm_Mem), Q σ' → fm_W S ω Γ M P σ' (pc + 3) L (rest)) : fm_W S ω Γ M P σ pc L st := fm_callS hd hc hM hrc hrs hR hn hst hW (fun v σ' h => by obtain ⟨rfl, h2⟩ := h; exact kk σ' h2)
theorem fm_cvR {Q : Nat → fm_Mem → Prop} {y : MethodName} {rm : Room} {b ci idx maxL n : Nat} {bytes : ByteArray} {ret : Option FieldType} {As rest : List Value} (hd : decode M.1 pc = .ok (.invokevirtual idx, 3)) (hc : fm_CV M.2.1 idx ci y bytes maxL ret n) (hM : fm_Met S ω y bytes maxL ret rm (fm_r ω b :: As) σ (fm_pR ω Q)) (ho : fm_ob S b ci) (hrc : rm.cells = 0) (hrs : rm.slots = 0)
    (hR : rm.frames + 1 ≤ M.2.2.1.frames ∧ 8 + (maxL + 11) + rm.locals ≤ M.2.2.1.locals) (hn : As.length = n) (hst : st = As.reverse ++ fm_r ω b :: rest) (hW : (rest.map fun v => v.category).sum ≤ 8)
    (kk : ∀ (z : Nat) (σ' : fm_Mem), Q z σ' → fm_W S ω Γ M P σ' (pc + 3) L (fm_r ω z :: rest)) : fm_W S ω Γ M P σ pc L st := fm_callV hd hc hM ho hrc hrs hR hn hst hW (fun v σ' h => by obtain ⟨z, rfl, h2⟩ := h; exact kk z σ' h2)
theorem fm_csR {Q : Nat → fm_Mem → Prop} {y : MethodName} {rm : Room} {idx maxL n : Nat} {bytes : ByteArray} {ret : Option FieldType} {As rest : List Value} (hd : decode M.1 pc = .ok (.invokestatic idx, 3)) (hc : fm_CS M.2.1 idx y bytes maxL ret n) (hM : fm_Met S ω y bytes maxL ret rm As σ (fm_pR ω Q)) (hrc : rm.cells = 0) (hrs : rm.slots = 0)
    (hR : rm.frames + 1 ≤ M.2.2.1.frames ∧ 8 + (maxL + 11) + rm.locals ≤ M.2.2.1.locals) (hn : As.length = n) (hst : st = As.reverse ++ rest) (hW : (rest.map fun v => v.category).sum ≤ 8)
    (kk : ∀ (z : Nat) (σ' : fm_Mem), Q z σ' → fm_W S ω Γ M P σ' (pc + 3) L (fm_r ω z :: rest)) : fm_W S ω Γ M P σ pc L st := fm_callS hd hc hM hrc hrs hR hn hst hW (fun v σ' h => by obtain ⟨z, rfl, h2⟩ := h; exact kk z σ' h2)
end FMC
section FMK
variable {ω : fm_O} {Γ : fm_G} {M : fm_M} {P : Option Value → fm_Mem → Prop} {σ : fm_Mem} {pc : Nat} {L : List (Option Value)} {st : List Value}
theorem gr_7_0 {idx : Nat} (hd : decode M.1 pc = .ok (.getfield idx, 3)) (hF : fm_Fd M.2.1 7 0 idx) (kk : fm_W kc ω Γ M P σ (pc + 3) L (fm_r ω 1 :: st)) : fm_W kc ω Γ M P σ pc L (fm_r ω 0 :: st) := fm_getR 1 hd hF ob_0 (by decide) rfl rfl kk
theorem gi_7_1 {idx : Nat} (hd : decode M.1 pc = .ok (.getfield idx, 3)) (hF : fm_Fd M.2.1 7 1 idx) (kk : fm_W kc ω Γ M P σ (pc + 3) L (fm_I (σ 0 1) :: st)) : fm_W kc ω Γ M P σ pc L (fm_r ω 0 :: st) := fm_getI hd hF ob_0 (by decide) rfl kk
theorem pf_7_1 {idx : Nat} {z : Int} (hd : decode M.1 pc = .ok (.putfield idx, 3)) (hF : fm_Fd M.2.1 7 1 idx) (kk : fm_W kc ω Γ M P (fm_up σ 0 1 z) (pc + 3) L st) : fm_W kc ω Γ M P σ pc L (fm_I z :: fm_r ω 0 :: st) := fm_put hd hF wr_X8_1 ob_0 (by decide) rfl kk
theorem gr_7_2 {idx : Nat} (hd : decode M.1 pc = .ok (.getfield idx, 3)) (hF : fm_Fd M.2.1 7 2 idx) (kk : fm_W kc ω Γ M P σ (pc + 3) L (fm_r ω 2 :: st)) : fm_W kc ω Γ M P σ pc L (fm_r ω 0 :: st) := fm_getR 2 hd hF ob_0 (by decide) rfl rfl kk
theorem gr_7_3 {idx : Nat} (hd : decode M.1 pc = .ok (.getfield idx, 3)) (hF : fm_Fd M.2.1 7 3 idx) (kk : fm_W kc ω Γ M P σ (pc + 3) L (fm_r ω 5 :: st)) : fm_W kc ω Γ M P σ pc L (fm_r ω 0 :: st) := fm_getR 5 hd hF ob_0 (by decide) rfl rfl kk
theorem gr_7_4 {idx : Nat} (hd : decode M.1 pc = .ok (.getfield idx, 3)) (hF : fm_Fd M.2.1 7 4 idx) (kk : fm_W kc ω Γ M P σ (pc + 3) L (fm_r ω 6 :: st)) : fm_W kc ω Γ M P σ pc L (fm_r ω 0 :: st) := fm_getR 6 hd hF ob_0 (by decide) rfl rfl kk
theorem gr_7_5 {idx : Nat} (hd : decode M.1 pc = .ok (.getfield idx, 3)) (hF : fm_Fd M.2.1 7 5 idx) (kk : fm_W kc ω Γ M P σ (pc + 3) L (fm_r ω 9 :: st)) : fm_W kc ω Γ M P σ pc L (fm_r ω 0 :: st) := fm_getR 9 hd hF ob_0 (by decide) rfl rfl kk
theorem gr_7_6 {idx : Nat} (hd : decode M.1 pc = .ok (.getfield idx, 3)) (hF : fm_Fd M.2.1 7 6 idx) (kk : fm_W kc ω Γ M P σ (pc + 3) L (fm_r ω 13 :: st)) : fm_W kc ω Γ M P σ pc L (fm_r ω 0 :: st) := fm_getR 13 hd hF ob_0 (by decide) rfl rfl kk
theorem gr_7_7 {idx : Nat} (hd : decode M.1 pc = .ok (.getfield idx, 3)) (hF : fm_Fd M.2.1 7 7 idx) (kk : fm_W kc ω Γ M P σ (pc + 3) L (fm_r ω 18 :: st)) : fm_W kc ω Γ M P σ pc L (fm_r ω 0 :: st) := fm_getR 18 hd hF ob_0 (by decide) rfl rfl kk
theorem gr_7_8 {idx : Nat} (hd : decode M.1 pc = .ok (.getfield idx, 3)) (hF : fm_Fd M.2.1 7 8 idx) (kk : fm_W kc ω Γ M P σ (pc + 3) L (fm_r ω 23 :: st)) : fm_W kc ω Γ M P σ pc L (fm_r ω 0 :: st) := fm_getR 23 hd hF ob_0 (by decide) rfl rfl kk
theorem gr_4_0 {idx : Nat} (hd : decode M.1 pc = .ok (.getfield idx, 3)) (hF : fm_Fd M.2.1 4 0 idx) (kk : fm_W kc ω Γ M P σ (pc + 3) L (fm_r ω 3 :: st)) : fm_W kc ω Γ M P σ pc L (fm_r ω 2 :: st) := fm_getR 3 hd hF ob_2 (by decide) rfl rfl kk
theorem gr_4_1 {idx : Nat} (hd : decode M.1 pc = .ok (.getfield idx, 3)) (hF : fm_Fd M.2.1 4 1 idx) (kk : fm_W kc ω Γ M P σ (pc + 3) L (fm_r ω 4 :: st)) : fm_W kc ω Γ M P σ pc L (fm_r ω 2 :: st) := fm_getR 4 hd hF ob_2 (by decide) rfl rfl kk
theorem gi_4_2 {idx : Nat} (hd : decode M.1 pc = .ok (.getfield idx, 3)) (hF : fm_Fd M.2.1 4 2 idx) (kk : fm_W kc ω Γ M P σ (pc + 3) L (fm_I (σ 2 2) :: st)) : fm_W kc ω Γ M P σ pc L (fm_r ω 2 :: st) := fm_getI hd hF ob_2 (by decide) rfl kk
theorem pf_4_2 {idx : Nat} {z : Int} (hd : decode M.1 pc = .ok (.putfield idx, 3)) (hF : fm_Fd M.2.1 4 2 idx) (kk : fm_W kc ω Γ M P (fm_up σ 2 2 z) (pc + 3) L st) : fm_W kc ω Γ M P σ pc L (fm_I z :: fm_r ω 2 :: st) := fm_put hd hF wr_X4_2 ob_2 (by decide) rfl kk
theorem gr_1_0 {idx : Nat} (hd : decode M.1 pc = .ok (.getfield idx, 3)) (hF : fm_Fd M.2.1 1 0 idx) (kk : fm_W kc ω Γ M P σ (pc + 3) L (fm_r ω 7 :: st)) : fm_W kc ω Γ M P σ pc L (fm_r ω 6 :: st) := fm_getR 7 hd hF ob_6 (by decide) rfl rfl kk
theorem gr_1_1 {idx : Nat} (hd : decode M.1 pc = .ok (.getfield idx, 3)) (hF : fm_Fd M.2.1 1 1 idx) (kk : fm_W kc ω Γ M P σ (pc + 3) L (fm_r ω 8 :: st)) : fm_W kc ω Γ M P σ pc L (fm_r ω 6 :: st) := fm_getR 8 hd hF ob_6 (by decide) rfl rfl kk
theorem gr_5_0 {idx : Nat} (hd : decode M.1 pc = .ok (.getfield idx, 3)) (hF : fm_Fd M.2.1 5 0 idx) (kk : fm_W kc ω Γ M P σ (pc + 3) L (fm_r ω 2 :: st)) : fm_W kc ω Γ M P σ pc L (fm_r ω 9 :: st) := fm_getR 2 hd hF ob_9 (by decide) rfl rfl kk
theorem gr_5_1 {idx : Nat} (hd : decode M.1 pc = .ok (.getfield idx, 3)) (hF : fm_Fd M.2.1 5 1 idx) (kk : fm_W kc ω Γ M P σ (pc + 3) L (fm_r ω 1 :: st)) : fm_W kc ω Γ M P σ pc L (fm_r ω 9 :: st) := fm_getR 1 hd hF ob_9 (by decide) rfl rfl kk
theorem gr_5_2 {idx : Nat} (hd : decode M.1 pc = .ok (.getfield idx, 3)) (hF : fm_Fd M.2.1 5 2 idx) (kk : fm_W kc ω Γ M P σ (pc + 3) L (fm_r ω 5 :: st)) : fm_W kc ω Γ M P σ pc L (fm_r ω 9 :: st) := fm_getR 5 hd hF ob_9 (by decide) rfl rfl kk
theorem gr_5_3 {idx : Nat} (hd : decode M.1 pc = .ok (.getfield idx, 3)) (hF : fm_Fd M.2.1 5 3 idx) (kk : fm_W kc ω Γ M P σ (pc + 3) L (fm_r ω 6 :: st)) : fm_W kc ω Γ M P σ pc L (fm_r ω 9 :: st) := fm_getR 6 hd hF ob_9 (by decide) rfl rfl kk
theorem gr_5_4 {idx : Nat} (hd : decode M.1 pc = .ok (.getfield idx, 3)) (hF : fm_Fd M.2.1 5 4 idx) (kk : fm_W kc ω Γ M P σ (pc + 3) L (fm_r ω 10 :: st)) : fm_W kc ω Γ M P σ pc L (fm_r ω 9 :: st) := fm_getR 10 hd hF ob_9 (by decide) rfl rfl kk
theorem gr_5_5 {idx : Nat} (hd : decode M.1 pc = .ok (.getfield idx, 3)) (hF : fm_Fd M.2.1 5 5 idx) (kk : fm_W kc ω Γ M P σ (pc + 3) L (fm_r ω 11 :: st)) : fm_W kc ω Γ M P σ pc L (fm_r ω 9 :: st) := fm_getR 11 hd hF ob_9 (by decide) rfl rfl kk
theorem gr_5_6 {idx : Nat} (hd : decode M.1 pc = .ok (.getfield idx, 3)) (hF : fm_Fd M.2.1 5 6 idx) (kk : fm_W kc ω Γ M P σ (pc + 3) L (fm_r ω 12 :: st)) : fm_W kc ω Γ M P σ pc L (fm_r ω 9 :: st) := fm_getR 12 hd hF ob_9 (by decide) rfl rfl kk
theorem gi_5_7 {idx : Nat} (hd : decode M.1 pc = .ok (.getfield idx, 3)) (hF : fm_Fd M.2.1 5 7 idx) (kk : fm_W kc ω Γ M P σ (pc + 3) L (fm_I (σ 9 7) :: st)) : fm_W kc ω Γ M P σ pc L (fm_r ω 9 :: st) := fm_getI hd hF ob_9 (by decide) rfl kk
theorem pf_5_7 {idx : Nat} {z : Int} (hd : decode M.1 pc = .ok (.putfield idx, 3)) (hF : fm_Fd M.2.1 5 7 idx) (kk : fm_W kc ω Γ M P (fm_up σ 9 7 z) (pc + 3) L st) : fm_W kc ω Γ M P σ pc L (fm_I z :: fm_r ω 9 :: st) := fm_put hd hF wr_X5_7 ob_9 (by decide) rfl kk
theorem gr_2_0 {idx : Nat} (hd : decode M.1 pc = .ok (.getfield idx, 3)) (hF : fm_Fd M.2.1 2 0 idx) (kk : fm_W kc ω Γ M P σ (pc + 3) L (fm_r ω 14 :: st)) : fm_W kc ω Γ M P σ pc L (fm_r ω 13 :: st) := fm_getR 14 hd hF ob_13 (by decide) rfl rfl kk
theorem gr_2_1 {idx : Nat} (hd : decode M.1 pc = .ok (.getfield idx, 3)) (hF : fm_Fd M.2.1 2 1 idx) (kk : fm_W kc ω Γ M P σ (pc + 3) L (fm_r ω 15 :: st)) : fm_W kc ω Γ M P σ pc L (fm_r ω 13 :: st) := fm_getR 15 hd hF ob_13 (by decide) rfl rfl kk
theorem gr_2_2 {idx : Nat} (hd : decode M.1 pc = .ok (.getfield idx, 3)) (hF : fm_Fd M.2.1 2 2 idx) (kk : fm_W kc ω Γ M P σ (pc + 3) L (fm_r ω 16 :: st)) : fm_W kc ω Γ M P σ pc L (fm_r ω 13 :: st) := fm_getR 16 hd hF ob_13 (by decide) rfl rfl kk
theorem gr_2_3 {idx : Nat} (hd : decode M.1 pc = .ok (.getfield idx, 3)) (hF : fm_Fd M.2.1 2 3 idx) (kk : fm_W kc ω Γ M P σ (pc + 3) L (fm_r ω 17 :: st)) : fm_W kc ω Γ M P σ pc L (fm_r ω 13 :: st) := fm_getR 17 hd hF ob_13 (by decide) rfl rfl kk
theorem gi_2_4 {idx : Nat} (hd : decode M.1 pc = .ok (.getfield idx, 3)) (hF : fm_Fd M.2.1 2 4 idx) (kk : fm_W kc ω Γ M P σ (pc + 3) L (fm_I (σ 13 4) :: st)) : fm_W kc ω Γ M P σ pc L (fm_r ω 13 :: st) := fm_getI hd hF ob_13 (by decide) rfl kk
theorem pf_2_4 {idx : Nat} {z : Int} (hd : decode M.1 pc = .ok (.putfield idx, 3)) (hF : fm_Fd M.2.1 2 4 idx) (kk : fm_W kc ω Γ M P (fm_up σ 13 4 z) (pc + 3) L st) : fm_W kc ω Γ M P σ pc L (fm_I z :: fm_r ω 13 :: st) := fm_put hd hF wr_X2_4 ob_13 (by decide) rfl kk
theorem gr_0_0 {idx : Nat} (hd : decode M.1 pc = .ok (.getfield idx, 3)) (hF : fm_Fd M.2.1 0 0 idx) (kk : fm_W kc ω Γ M P σ (pc + 3) L (fm_r ω 19 :: st)) : fm_W kc ω Γ M P σ pc L (fm_r ω 18 :: st) := fm_getR 19 hd hF ob_18 (by decide) rfl rfl kk
theorem gr_0_1 {idx : Nat} (hd : decode M.1 pc = .ok (.getfield idx, 3)) (hF : fm_Fd M.2.1 0 1 idx) (kk : fm_W kc ω Γ M P σ (pc + 3) L (fm_r ω 20 :: st)) : fm_W kc ω Γ M P σ pc L (fm_r ω 18 :: st) := fm_getR 20 hd hF ob_18 (by decide) rfl rfl kk
theorem gr_0_2 {idx : Nat} (hd : decode M.1 pc = .ok (.getfield idx, 3)) (hF : fm_Fd M.2.1 0 2 idx) (kk : fm_W kc ω Γ M P σ (pc + 3) L (fm_r ω 21 :: st)) : fm_W kc ω Γ M P σ pc L (fm_r ω 18 :: st) := fm_getR 21 hd hF ob_18 (by decide) rfl rfl kk
theorem gr_0_3 {idx : Nat} (hd : decode M.1 pc = .ok (.getfield idx, 3)) (hF : fm_Fd M.2.1 0 3 idx) (kk : fm_W kc ω Γ M P σ (pc + 3) L (fm_r ω 22 :: st)) : fm_W kc ω Γ M P σ pc L (fm_r ω 18 :: st) := fm_getR 22 hd hF ob_18 (by decide) rfl rfl kk
theorem gi_0_4 {idx : Nat} (hd : decode M.1 pc = .ok (.getfield idx, 3)) (hF : fm_Fd M.2.1 0 4 idx) (kk : fm_W kc ω Γ M P σ (pc + 3) L (fm_I (σ 18 4) :: st)) : fm_W kc ω Γ M P σ pc L (fm_r ω 18 :: st) := fm_getI hd hF ob_18 (by decide) rfl kk
theorem pf_0_4 {idx : Nat} {z : Int} (hd : decode M.1 pc = .ok (.putfield idx, 3)) (hF : fm_Fd M.2.1 0 4 idx) (kk : fm_W kc ω Γ M P (fm_up σ 18 4 z) (pc + 3) L st) : fm_W kc ω Γ M P σ pc L (fm_I z :: fm_r ω 18 :: st) := fm_put hd hF wr_X0_4 ob_18 (by decide) rfl kk
theorem gr_6_0 {idx : Nat} (hd : decode M.1 pc = .ok (.getfield idx, 3)) (hF : fm_Fd M.2.1 6 0 idx) (kk : fm_W kc ω Γ M P σ (pc + 3) L (fm_r ω 24 :: st)) : fm_W kc ω Γ M P σ pc L (fm_r ω 23 :: st) := fm_getR 24 hd hF ob_23 (by decide) rfl rfl kk
theorem gr_6_1 {idx : Nat} (hd : decode M.1 pc = .ok (.getfield idx, 3)) (hF : fm_Fd M.2.1 6 1 idx) (kk : fm_W kc ω Γ M P σ (pc + 3) L (fm_r ω 25 :: st)) : fm_W kc ω Γ M P σ pc L (fm_r ω 23 :: st) := fm_getR 25 hd hF ob_23 (by decide) rfl rfl kk
theorem gr_6_2 {idx : Nat} (hd : decode M.1 pc = .ok (.getfield idx, 3)) (hF : fm_Fd M.2.1 6 2 idx) (kk : fm_W kc ω Γ M P σ (pc + 3) L (fm_r ω 26 :: st)) : fm_W kc ω Γ M P σ pc L (fm_r ω 23 :: st) := fm_getR 26 hd hF ob_23 (by decide) rfl rfl kk
theorem gi_6_3 {idx : Nat} (hd : decode M.1 pc = .ok (.getfield idx, 3)) (hF : fm_Fd M.2.1 6 3 idx) (kk : fm_W kc ω Γ M P σ (pc + 3) L (fm_I (σ 23 3) :: st)) : fm_W kc ω Γ M P σ pc L (fm_r ω 23 :: st) := fm_getI hd hF ob_23 (by decide) rfl kk
theorem pf_6_3 {idx : Nat} {z : Int} (hd : decode M.1 pc = .ok (.putfield idx, 3)) (hF : fm_Fd M.2.1 6 3 idx) (kk : fm_W kc ω Γ M P (fm_up σ 23 3 z) (pc + 3) L st) : fm_W kc ω Γ M P σ pc L (fm_I z :: fm_r ω 23 :: st) := fm_put hd hF wr_X6_3 ob_23 (by decide) rfl kk
theorem gr_3_0 {idx c : Nat} (hc : c < 6) (hd : decode M.1 pc = .ok (.getfield idx, 3)) (hF : fm_Fd M.2.1 3 0 idx) (kk : fm_W kc ω Γ M P σ (pc + 3) L (fm_r ω (33 + c) :: st)) : fm_W kc ω Γ M P σ pc L (fm_r ω (27 + c) :: st) := fm_getR (33 + c) hd hF (ob_reel hc) (by decide) rfl ((by decide +kernel : ∀ c, c < 6 → kc.2.2.1 (27 + c) 0 = 33 + c) c hc) kk
theorem gr_3_1 {idx c : Nat} (hc : c < 6) (hd : decode M.1 pc = .ok (.getfield idx, 3)) (hF : fm_Fd M.2.1 3 1 idx) (kk : fm_W kc ω Γ M P σ (pc + 3) L (fm_r ω (39 + c) :: st)) : fm_W kc ω Γ M P σ pc L (fm_r ω (27 + c) :: st) := fm_getR (39 + c) hd hF (ob_reel hc) (by decide) rfl ((by decide +kernel : ∀ c, c < 6 → kc.2.2.1 (27 + c) 1 = 39 + c) c hc) kk
theorem gr_3_2 {idx c : Nat} (hc : c < 6) (hd : decode M.1 pc = .ok (.getfield idx, 3)) (hF : fm_Fd M.2.1 3 2 idx) (kk : fm_W kc ω Γ M P σ (pc + 3) L (fm_r ω (45 + c) :: st)) : fm_W kc ω Γ M P σ pc L (fm_r ω (27 + c) :: st) := fm_getR (45 + c) hd hF (ob_reel hc) (by decide) rfl ((by decide +kernel : ∀ c, c < 6 → kc.2.2.1 (27 + c) 2 = 45 + c) c hc) kk
theorem gi_3_3 {idx c : Nat} (hc : c < 6) (hd : decode M.1 pc = .ok (.getfield idx, 3)) (hF : fm_Fd M.2.1 3 3 idx) (kk : fm_W kc ω Γ M P σ (pc + 3) L (fm_I (σ (27 + c) 3) :: st)) : fm_W kc ω Γ M P σ pc L (fm_r ω (27 + c) :: st) := fm_getI hd hF (ob_reel hc) (by decide) rfl kk
theorem pf_3_3 {idx c : Nat} {z : Int} (hc : c < 6) (hd : decode M.1 pc = .ok (.putfield idx, 3)) (hF : fm_Fd M.2.1 3 3 idx) (kk : fm_W kc ω Γ M P (fm_up σ (27 + c) 3 z) (pc + 3) L st) : fm_W kc ω Γ M P σ pc L (fm_I z :: fm_r ω (27 + c) :: st) := fm_put hd hF wr_X3_3 (ob_reel hc) (by decide) rfl kk
theorem ar_1 {i : Int} (h0 : 0 ≤ i) (h1 : i < 6) (hd : decode M.1 pc = .ok (.aaload, 1)) (kk : fm_W kc ω Γ M P σ (pc + 1) L (fm_r ω (27 + i.toNat) :: st)) : fm_W kc ω Γ M P σ pc L (fm_I i :: fm_r ω 1 :: st) := fm_aald (t := 1) (n := 6) (27 + i.toNat) hd (by unfold fm_ra; decide +kernel) h0 h1 rfl kk
theorem ar_7 {i : Int} (h0 : 0 ≤ i) (h1 : i < 41) (hd : decode M.1 pc = .ok (.aaload, 1)) (kk : fm_W kc ω Γ M P σ (pc + 1) L (fm_r ω (63 + i.toNat) :: st)) : fm_W kc ω Γ M P σ pc L (fm_I i :: fm_r ω 7 :: st) := fm_aald (t := 2) (n := 41) (63 + i.toNat) hd (by unfold fm_ra; decide +kernel) h0 h1 rfl kk
theorem ar_10 {i : Int} (h0 : 0 ≤ i) (h1 : i < 6) (hd : decode M.1 pc = .ok (.aaload, 1)) (kk : fm_W kc ω Γ M P σ (pc + 1) L (fm_r ω (57 + i.toNat) :: st)) : fm_W kc ω Γ M P σ pc L (fm_I i :: fm_r ω 10 :: st) := fm_aald (t := 2) (n := 6) (57 + i.toNat) hd (by unfold fm_ra; decide +kernel) h0 h1 rfl kk
theorem ar_11 {i : Int} (h0 : 0 ≤ i) (h1 : i < 40) (hd : decode M.1 pc = .ok (.aaload, 1)) (kk : fm_W kc ω Γ M P σ (pc + 1) L (fm_r ω (104 + i.toNat) :: st)) : fm_W kc ω Γ M P σ pc L (fm_I i :: fm_r ω 11 :: st) := fm_aald (t := 2) (n := 40) (104 + i.toNat) hd (by unfold fm_ra; decide +kernel) h0 h1 rfl kk
theorem ar_19 {i : Int} (h0 : 0 ≤ i) (h1 : i < 6) (hd : decode M.1 pc = .ok (.aaload, 1)) (kk : fm_W kc ω Γ M P σ (pc + 1) L (fm_r ω (51 + i.toNat) :: st)) : fm_W kc ω Γ M P σ pc L (fm_I i :: fm_r ω 19 :: st) := fm_aald (t := 2) (n := 6) (51 + i.toNat) hd (by unfold fm_ra; decide +kernel) h0 h1 rfl kk
theorem gi_8_0 {idx : Nat} (hd : decode M.1 pc = .ok (.getfield idx, 3)) (hF : fm_Fd M.2.1 8 0 idx) (kk : fm_W km ω Γ M P σ (pc + 3) L (fm_I (σ 0 0) :: st)) : fm_W km ω Γ M P σ pc L (fm_r ω 0 :: st) := fm_getI hd hF mb_0 (by decide) rfl kk
theorem pf_8_0 {idx : Nat} {z : Int} (hd : decode M.1 pc = .ok (.putfield idx, 3)) (hF : fm_Fd M.2.1 8 0 idx) (kk : fm_W km ω Γ M P (fm_up σ 0 0 z) (pc + 3) L st) : fm_W km ω Γ M P σ pc L (fm_I z :: fm_r ω 0 :: st) := fm_put hd hF wr_X9_0 mb_0 (by decide) rfl kk
theorem gr_8_1 {idx : Nat} (hd : decode M.1 pc = .ok (.getfield idx, 3)) (hF : fm_Fd M.2.1 8 1 idx) (kk : fm_W km ω Γ M P σ (pc + 3) L (fm_r ω 1 :: st)) : fm_W km ω Γ M P σ pc L (fm_r ω 0 :: st) := fm_getR 1 hd hF mb_0 (by decide) rfl rfl kk
theorem gr_8_2 {idx : Nat} (hd : decode M.1 pc = .ok (.getfield idx, 3)) (hF : fm_Fd M.2.1 8 2 idx) (kk : fm_W km ω Γ M P σ (pc + 3) L (fm_r ω 2 :: st)) : fm_W km ω Γ M P σ pc L (fm_r ω 0 :: st) := fm_getR 2 hd hF mb_0 (by decide) rfl rfl kk
theorem gr_8_3 {idx : Nat} (hd : decode M.1 pc = .ok (.getfield idx, 3)) (hF : fm_Fd M.2.1 8 3 idx) (kk : fm_W km ω Γ M P σ (pc + 3) L (fm_r ω 3 :: st)) : fm_W km ω Γ M P σ pc L (fm_r ω 0 :: st) := fm_getR 3 hd hF mb_0 (by decide) rfl rfl kk
theorem gr_8_4 {idx : Nat} (hd : decode M.1 pc = .ok (.getfield idx, 3)) (hF : fm_Fd M.2.1 8 4 idx) (kk : fm_W km ω Γ M P σ (pc + 3) L (fm_r ω 4 :: st)) : fm_W km ω Γ M P σ pc L (fm_r ω 0 :: st) := fm_getR 4 hd hF mb_0 (by decide) rfl rfl kk
theorem gr_8_5 {idx : Nat} (hd : decode M.1 pc = .ok (.getfield idx, 3)) (hF : fm_Fd M.2.1 8 5 idx) (kk : fm_W km ω Γ M P σ (pc + 3) L (fm_r ω 5 :: st)) : fm_W km ω Γ M P σ pc L (fm_r ω 0 :: st) := fm_getR 5 hd hF mb_0 (by decide) rfl rfl kk
theorem gr_8_6 {idx : Nat} (hd : decode M.1 pc = .ok (.getfield idx, 3)) (hF : fm_Fd M.2.1 8 6 idx) (kk : fm_W km ω Γ M P σ (pc + 3) L (fm_r ω 6 :: st)) : fm_W km ω Γ M P σ pc L (fm_r ω 0 :: st) := fm_getR 6 hd hF mb_0 (by decide) rfl rfl kk
theorem gi_8_7 {idx : Nat} (hd : decode M.1 pc = .ok (.getfield idx, 3)) (hF : fm_Fd M.2.1 8 7 idx) (kk : fm_W km ω Γ M P σ (pc + 3) L (fm_I (σ 0 7) :: st)) : fm_W km ω Γ M P σ pc L (fm_r ω 0 :: st) := fm_getI hd hF mb_0 (by decide) rfl kk
theorem pf_8_7 {idx : Nat} {z : Int} (hd : decode M.1 pc = .ok (.putfield idx, 3)) (hF : fm_Fd M.2.1 8 7 idx) (kk : fm_W km ω Γ M P (fm_up σ 0 7 z) (pc + 3) L st) : fm_W km ω Γ M P σ pc L (fm_I z :: fm_r ω 0 :: st) := fm_put hd hF wr_X9_7 mb_0 (by decide) rfl kk
theorem gr_8_8 {idx : Nat} (hd : decode M.1 pc = .ok (.getfield idx, 3)) (hF : fm_Fd M.2.1 8 8 idx) (kk : fm_W km ω Γ M P σ (pc + 3) L (fm_r ω 7 :: st)) : fm_W km ω Γ M P σ pc L (fm_r ω 0 :: st) := fm_getR 7 hd hF mb_0 (by decide) rfl rfl kk
theorem gr_8_9 {idx : Nat} (hd : decode M.1 pc = .ok (.getfield idx, 3)) (hF : fm_Fd M.2.1 8 9 idx) (kk : fm_W km ω Γ M P σ (pc + 3) L (fm_r ω 8 :: st)) : fm_W km ω Γ M P σ pc L (fm_r ω 0 :: st) := fm_getR 8 hd hF mb_0 (by decide) rfl rfl kk
theorem gr_8_10 {idx : Nat} (hd : decode M.1 pc = .ok (.getfield idx, 3)) (hF : fm_Fd M.2.1 8 10 idx) (kk : fm_W km ω Γ M P σ (pc + 3) L (fm_r ω 9 :: st)) : fm_W km ω Γ M P σ pc L (fm_r ω 0 :: st) := fm_getR 9 hd hF mb_0 (by decide) rfl rfl kk
theorem gr_8_11 {idx : Nat} (hd : decode M.1 pc = .ok (.getfield idx, 3)) (hF : fm_Fd M.2.1 8 11 idx) (kk : fm_W km ω Γ M P σ (pc + 3) L (fm_r ω 10 :: st)) : fm_W km ω Γ M P σ pc L (fm_r ω 0 :: st) := fm_getR 10 hd hF mb_0 (by decide) rfl rfl kk
theorem gi_8_12 {idx : Nat} (hd : decode M.1 pc = .ok (.getfield idx, 3)) (hF : fm_Fd M.2.1 8 12 idx) (kk : fm_W km ω Γ M P σ (pc + 3) L (fm_I (σ 0 12) :: st)) : fm_W km ω Γ M P σ pc L (fm_r ω 0 :: st) := fm_getI hd hF mb_0 (by decide) rfl kk
theorem pf_8_12 {idx : Nat} {z : Int} (hd : decode M.1 pc = .ok (.putfield idx, 3)) (hF : fm_Fd M.2.1 8 12 idx) (kk : fm_W km ω Γ M P (fm_up σ 0 12 z) (pc + 3) L st) : fm_W km ω Γ M P σ pc L (fm_I z :: fm_r ω 0 :: st) := fm_put hd hF wr_X9_12 mb_0 (by decide) rfl kk
theorem gr_8_13 {idx : Nat} (hd : decode M.1 pc = .ok (.getfield idx, 3)) (hF : fm_Fd M.2.1 8 13 idx) (kk : fm_W km ω Γ M P σ (pc + 3) L (fm_r ω 11 :: st)) : fm_W km ω Γ M P σ pc L (fm_r ω 0 :: st) := fm_getR 11 hd hF mb_0 (by decide) rfl rfl kk
theorem gr_8_14 {idx : Nat} (hd : decode M.1 pc = .ok (.getfield idx, 3)) (hF : fm_Fd M.2.1 8 14 idx) (kk : fm_W km ω Γ M P σ (pc + 3) L (fm_r ω 12 :: st)) : fm_W km ω Γ M P σ pc L (fm_r ω 0 :: st) := fm_getR 12 hd hF mb_0 (by decide) rfl rfl kk
theorem gr_8_15 {idx : Nat} (hd : decode M.1 pc = .ok (.getfield idx, 3)) (hF : fm_Fd M.2.1 8 15 idx) (kk : fm_W km ω Γ M P σ (pc + 3) L (fm_r ω 13 :: st)) : fm_W km ω Γ M P σ pc L (fm_r ω 0 :: st) := fm_getR 13 hd hF mb_0 (by decide) rfl rfl kk
theorem gi_8_16 {idx : Nat} (hd : decode M.1 pc = .ok (.getfield idx, 3)) (hF : fm_Fd M.2.1 8 16 idx) (kk : fm_W km ω Γ M P σ (pc + 3) L (fm_I (σ 0 16) :: st)) : fm_W km ω Γ M P σ pc L (fm_r ω 0 :: st) := fm_getI hd hF mb_0 (by decide) rfl kk
theorem pf_8_16 {idx : Nat} {z : Int} (hd : decode M.1 pc = .ok (.putfield idx, 3)) (hF : fm_Fd M.2.1 8 16 idx) (kk : fm_W km ω Γ M P (fm_up σ 0 16 z) (pc + 3) L st) : fm_W km ω Γ M P σ pc L (fm_I z :: fm_r ω 0 :: st) := fm_put hd hF wr_X9_16 mb_0 (by decide) rfl kk
theorem gr_8_17 {idx : Nat} (hd : decode M.1 pc = .ok (.getfield idx, 3)) (hF : fm_Fd M.2.1 8 17 idx) (kk : fm_W km ω Γ M P σ (pc + 3) L (fm_r ω 14 :: st)) : fm_W km ω Γ M P σ pc L (fm_r ω 0 :: st) := fm_getR 14 hd hF mb_0 (by decide) rfl rfl kk
theorem gr_8_18 {idx : Nat} (hd : decode M.1 pc = .ok (.getfield idx, 3)) (hF : fm_Fd M.2.1 8 18 idx) (kk : fm_W km ω Γ M P σ (pc + 3) L (fm_r ω 15 :: st)) : fm_W km ω Γ M P σ pc L (fm_r ω 0 :: st) := fm_getR 15 hd hF mb_0 (by decide) rfl rfl kk
theorem gr_8_19 {idx : Nat} (hd : decode M.1 pc = .ok (.getfield idx, 3)) (hF : fm_Fd M.2.1 8 19 idx) (kk : fm_W km ω Γ M P σ (pc + 3) L (fm_r ω 16 :: st)) : fm_W km ω Γ M P σ pc L (fm_r ω 0 :: st) := fm_getR 16 hd hF mb_0 (by decide) rfl rfl kk
theorem gr_8_20 {idx : Nat} (hd : decode M.1 pc = .ok (.getfield idx, 3)) (hF : fm_Fd M.2.1 8 20 idx) (kk : fm_W km ω Γ M P σ (pc + 3) L (fm_r ω 17 :: st)) : fm_W km ω Γ M P σ pc L (fm_r ω 0 :: st) := fm_getR 17 hd hF mb_0 (by decide) rfl rfl kk
theorem gr_8_21 {idx : Nat} (hd : decode M.1 pc = .ok (.getfield idx, 3)) (hF : fm_Fd M.2.1 8 21 idx) (kk : fm_W km ω Γ M P σ (pc + 3) L (fm_r ω 18 :: st)) : fm_W km ω Γ M P σ pc L (fm_r ω 0 :: st) := fm_getR 18 hd hF mb_0 (by decide) rfl rfl kk
theorem gr_8_22 {idx : Nat} (hd : decode M.1 pc = .ok (.getfield idx, 3)) (hF : fm_Fd M.2.1 8 22 idx) (kk : fm_W km ω Γ M P σ (pc + 3) L (fm_r ω 19 :: st)) : fm_W km ω Γ M P σ pc L (fm_r ω 0 :: st) := fm_getR 19 hd hF mb_0 (by decide) rfl rfl kk
theorem gr_8_23 {idx : Nat} (hd : decode M.1 pc = .ok (.getfield idx, 3)) (hF : fm_Fd M.2.1 8 23 idx) (kk : fm_W km ω Γ M P σ (pc + 3) L (fm_r ω 20 :: st)) : fm_W km ω Γ M P σ pc L (fm_r ω 0 :: st) := fm_getR 20 hd hF mb_0 (by decide) rfl rfl kk
theorem gr_8_24 {idx : Nat} (hd : decode M.1 pc = .ok (.getfield idx, 3)) (hF : fm_Fd M.2.1 8 24 idx) (kk : fm_W km ω Γ M P σ (pc + 3) L (fm_r ω 21 :: st)) : fm_W km ω Γ M P σ pc L (fm_r ω 0 :: st) := fm_getR 21 hd hF mb_0 (by decide) rfl rfl kk
end FMK
