/-! rule, the class's: it reads a static row that the Statement gives -/
def fm_tor (j : Nat) : Value := fm_I (if j = 0 then 5 else 100)
def fm_S (A : Nat → Prop) (U : State) : Prop := ∃ t, va_Z RX8 "TOP_OF_RULE" "[I" (.ref t) A U U.heap ∧ va_T .int t 4 fm_tor A U U.heap
def fm_MetS (S : fm_Sh) (ω : fm_O) (y : MethodName) (cc : ByteArray) (n : Nat) (ret : Option FieldType) (rm : Room) (av : List Value) (σ : fm_Mem) (P : Option Value → fm_Mem → Prop) : Prop :=
  Met ω.1 y (Cond.code y cc n ret :: fm_T) rm (va_Pc av (fun U => va_P ω.2.1 vwCl (fm_ws S ω.2.2.1 ω.2.2.2 σ) U.heap ∧ va_K ω.2.1 vwCl (fm_tys ω.2.2.1) U ∧ va_D (fun _ => True) (fm_ws S ω.2.2.1 ω.2.2.2 (fun _ _ => 0)) ∧ fm_S (fm_A S ω.2.2.2) U)) (fm_Qc S ω P) 0 0 (fm_A S ω.2.2.2)
section FMS
variable {S : fm_Sh} {ω : fm_O} {Γ : fm_G} {M : fm_M} {P : Option Value → fm_Mem → Prop} {σ : fm_Mem} {pc : Nat} {L : List (Option Value)} {st : List Value}
theorem fm_startS {y : MethodName} {cc : ByteArray} {own : String} {rm : Room} {n : Nat} {ret : Option FieldType} {av : List Value} (hy : plainName y.cls = true) (hown : y.cls = own) (hlen : (lg_sl av).length ≤ n) (L0 : List (Option Value)) (hL0 : fm_in av n = L0)
    (k : ∀ Γ : fm_G, fm_S (fm_A S ω.2.2.2) Γ.2.2.1 → fm_W S ω Γ (cc, own, rm, n, ret) P σ 0 L0 []) : fm_MetS S ω y cc n ret rm av σ P := by
  refine Met.ofW (cc := cc) (maxL := n) (ret := ret) hy rfl ?_
  intro p e s m args below meth c s₁ B hml hv
  obtain ⟨rfl, hP, hK, hD, hZ⟩ := hv
  have hts := atoms_spec (ws := Cond.code y cc n ret :: fm_T) B.pre
  have hown2 : s.vm.findClass own = some m.cls := by rw [← hown]; exact findClass_of_methodNamed B.named
  have hl := lv_entry av (n := n) hlen
  rw [lg_entry_eq]
  refine k (p, e, s, m, av.toArray, below, meth, c) hZ ⟨B.exec, B.bytes, hml, hown2, fun w hw => hts w (List.mem_cons_of_mem _ hw), B.returns, B.notSynchronized, hK, fm_D hD (fun k hk => ⟨k, hk, rfl⟩)⟩ (by rw [← hL0, fm_in_len]) s.heap [] _ hP va_S.rf ⟨by rw [← hL0, fm_in_len]; exact hl.1, hl.2.1, fun i v hv => ?_⟩
  subst hL0
  have := fm_in_at av n 0 i v hv
  rw [Nat.zero_add] at this
  exact hl.2.2 _ this
theorem fm_gets {t idx : Nat} (hZ : va_Z RX8 "TOP_OF_RULE" "[I" (.ref t) (fm_A S ω.2.2.2) Γ.2.2.1 Γ.2.2.1.heap) (hd : decode M.1 pc = .ok (.getstatic idx, 3)) (w : Cond.fieldLink M.2.1 idx RX8 "TOP_OF_RULE" "[I" ∈ fm_T) (k : fm_W S ω Γ M P σ (pc + 3) L (.ref t :: st)) : fm_W S ω Γ M P σ pc L st := by
  intro C hL H locs ls hP hS hl
  obtain ⟨hx, hb, hml, hown, hts, hr, hlk, hK, hD⟩ := id C
  exact va_gets hx hb hZ hS hown (hts _ w) (fun _ h => h) hd (k C hL H locs ls hP hS hl)
theorem fm_tald {t : Nat} {i : Int} (hT : va_T .int t 4 fm_tor (fm_A S ω.2.2.2) Γ.2.2.1 Γ.2.2.1.heap) (hd : decode M.1 pc = .ok (.iaload, 1)) (h0 : 0 ≤ i) (h1 : i < 4) (k : fm_W S ω Γ M P σ (pc + 1) L (fm_I (if i = 0 then 5 else 100) :: st)) : fm_W S ω Γ M P σ pc L (fm_I i :: .ref t :: st) := by
  intro C hL H locs ls hP hS hl
  obtain ⟨hx, hb, hml, hown, hts, hr, hlk, hK, hD⟩ := id C
  refine va_ti hx hb hT hS (fm_vin (by decide) h0 h1) ?_ hd (k C hL H locs ls hP hS hl)
  rw [fm_clamp h0 (by omega)]
  unfold fm_tor
  by_cases e : i = 0
  · subst e; rfl
  · rw [if_neg e, if_neg (by omega)]
end FMS
theorem fl_125 : Cond.fieldLink RX8 125 RX8 "TOP_OF_RULE" "[I" ∈ fm_T := fm_mem 353 (by decide +kernel) rfl
set_option maxRecDepth 20000 in
set_option maxHeartbeats 4000000 in
theorem k_X8_rule {ω : fm_O} {σ : fm_Mem} {μ : fm_Mem} (hi : fj μ) (h : rel μ σ) {t v : Int} (rt : fm_R t) (rv : fm_R v) : fm_MetS kc ω yX8_rule cX8_rule 4 (some .int) (fm_rm 1) [fm_r ω 0, fm_I t, fm_I v] σ (fm_pI fun z σ' => z = (sp_rule μ t v).1 ∧ rel (sp_rule μ t v).2 σ') := by
  refine fm_startS (by decide) rfl (Nat.le_of_ble_eq_true rfl) [some (fm_r ω 0), some (fm_I t), some (fm_I v), none] rfl (fun Γ hZ => ?_)
  obtain ⟨t0, hZ, hT⟩ := hZ
  have hf := hi.fi
  have hw := rel.cw hf h
  refine fm_ild1 dX8_rule_0 ?_
  refine fm_iconst dX8_rule_1 ?_
  refine fm_csI dX8_rule_2 cl_X8_72 (k_X8_isWithin ⟨by omega, by omega⟩ ⟨by omega, by omega⟩) rfl rfl (by decide) rfl rfl (Nat.le_of_ble_eq_true rfl) (fun z2 s2 q2 => ?_)
  obtain ⟨q2, rfl⟩ := q2
  refine fm_if_eq (⟨by omega, by omega⟩) 20 dX8_rule_5 (by decide) (fun h5 => ?_) (fun h5 => ?_)
  · refine fm_iconst dX8_rule_20 ?_
    refine fm_iretI dX8_rule_21 rfl ?_
    unfold sp_rule
    rw [if_pos (fun q => by have := q.1; omega)]
    exact ⟨rfl, h⟩
  · refine fm_ild2 dX8_rule_8 ?_
    refine fm_gets hZ dX8_rule_9 fl_125 ?_
    refine fm_ild1 dX8_rule_12 ?_
    refine fm_tald hT dX8_rule_13 (by omega) (by omega) ?_
    refine fm_csI dX8_rule_14 cl_X8_72 (k_X8_isWithin ⟨by omega, by omega⟩ (by split <;> exact ⟨by omega, by omega⟩)) rfl rfl (by decide) rfl rfl (Nat.le_of_ble_eq_true rfl) (fun z14 s14 q14 => ?_)
    obtain ⟨q14, rfl⟩ := q14
    refine fm_if_ne (⟨by omega, by omega⟩) 22 dX8_rule_17 (by decide) (fun h17 => ?_) (fun h17 => ?_)
    · refine fm_ald0 dX8_rule_22 ?_
      refine gr_7_3 dX8_rule_23 fd_X8_22 ?_
      refine fm_ild1 dX8_rule_26 ?_
      refine fm_iald dX8_rule_27 ia_5 (by omega) (by omega) ?_
      refine fm_ist3 rfl dX8_rule_28 ?_
      refine fm_ald0 dX8_rule_29 ?_
      refine gr_7_3 dX8_rule_30 fd_X8_22 ?_
      refine fm_ild1 dX8_rule_33 ?_
      refine fm_ild2 dX8_rule_34 ?_
      refine fm_iast dX8_rule_35 ia_5 (by omega) (by omega) ?_
      refine fm_ild3 dX8_rule_36 ?_
      refine fm_iretI dX8_rule_37 rfl ?_
      unfold sp_rule
      rw [if_neg (fun q => q ⟨by unfold inR; omega, by unfold inR; omega⟩)]
      exact ⟨h.2.2.1 t.toNat (by omega), rel_rule h⟩
    · refine fm_iconst dX8_rule_20 ?_
      refine fm_iretI dX8_rule_21 rfl ?_
      unfold sp_rule
      rw [if_pos (fun q => by have := q.2; unfold inR at this; omega)]
      exact ⟨rfl, h⟩
