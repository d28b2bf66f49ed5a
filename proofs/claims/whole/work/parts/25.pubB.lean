set_option maxRecDepth 20000 in
set_option maxHeartbeats 4000000 in
theorem k_X8_whole {ω : fm_O} {σ : fm_Mem} {μ : fm_Mem} (hi : fj μ) (h : rel μ σ) {i : Int} (ri : fm_R i) : fm_Met kc ω yX8_whole cX8_whole 2 (some .int) (fm_rm 6) [fm_r ω 0, fm_I i] σ (fm_pI fun z σ' => z = sp_whole μ i ∧ rel μ σ') := by
  refine fm_start (by decide) rfl (Nat.le_of_ble_eq_true rfl) [some (fm_r ω 0), some (fm_I i)] rfl (fun Γ => ?_)
  have hf := hi.fi
  have hw := rel.cw hf h
  have e0 := h.1.1
  have b0 := hf.1
  have b6 := hf.2.1 6 (by omega)
  have e6 := h.2.1.1
  have s1 := (srcs_ok hf i.toNat).1
  refine fm_ild1 dX8_whole_0 ?_
  refine fm_iconst dX8_whole_1 ?_
  refine fm_icmp_eq (⟨by omega, by omega⟩) (⟨by omega, by omega⟩) 18 dX8_whole_2 (by decide) (fun h2 => ?_) (fun h2 => ?_)
  · refine fm_ald0 dX8_whole_18 ?_
    refine gr_7_5 dX8_whole_19 fd_X8_60 ?_
    refine fm_cvN dX8_whole_22 cl_X8_160 (k_X5_choose hi h) ob_9 rfl rfl (by decide) rfl rfl (Nat.le_of_ble_eq_true rfl) (fun s22 q22 => ?_)
    refine fm_ild1 dX8_whole_25 ?_
    refine fm_iconst dX8_whole_26 ?_
    refine fm_icmp_ne (⟨by omega, by omega⟩) (⟨by omega, by omega⟩) 38 dX8_whole_27 (by decide) (fun h27 => ?_) (fun h27 => ?_)
    · refine fm_ald0 dX8_whole_38 ?_
      refine gr_7_5 dX8_whole_39 fd_X8_60 ?_
      refine gr_5_6 dX8_whole_42 fd_X8_166 ?_
      refine fm_ild1 dX8_whole_45 ?_
      refine fm_iald dX8_whole_46 ia_12 (by omega) (by omega) ?_
      rw [q22.2.2.1 i.toNat (by omega)]
      refine fm_bipush (by decide) dX8_whole_47 ?_
      refine fm_icmp_ne (⟨by omega, by omega⟩) (⟨by omega, by omega⟩) 57 dX8_whole_49 (by decide) (fun h49 => ?_) (fun h49 => ?_)
      · refine fm_ald0 dX8_whole_57 ?_
        refine gr_7_5 dX8_whole_58 fd_X8_60 ?_
        refine gr_5_6 dX8_whole_61 fd_X8_166 ?_
        refine fm_ild1 dX8_whole_64 ?_
        refine fm_iald dX8_whole_65 ia_12 (by omega) (by omega) ?_
        try rw [q22.2.2.1 i.toNat (by omega)]
        refine fm_iretI dX8_whole_66 rfl ?_
        unfold sp_whole
        first
          | (rw [if_pos (by omega)]; exact ⟨by omega, h⟩)
          | (rw [if_neg (by omega), if_pos (by omega)]; exact ⟨q22.2.2.2, h.frm q22.2.1⟩)
          | (rw [if_neg (by omega), if_neg (by omega), if_pos (by omega)]; exact ⟨rfl, h.frm q22.2.1⟩)
          | (rw [if_neg (by omega), if_neg (by omega), if_neg (by omega)]; exact ⟨rfl, h.frm q22.2.1⟩)
      · refine fm_bipush (by decide) dX8_whole_52 ?_
        refine fm_goto 66 dX8_whole_54 (by decide) ?_
        refine fm_iretI dX8_whole_66 rfl ?_
        unfold sp_whole
        first
          | (rw [if_pos (by omega)]; exact ⟨by omega, h⟩)
          | (rw [if_neg (by omega), if_pos (by omega)]; exact ⟨q22.2.2.2, h.frm q22.2.1⟩)
          | (rw [if_neg (by omega), if_neg (by omega), if_pos (by omega)]; exact ⟨rfl, h.frm q22.2.1⟩)
          | (rw [if_neg (by omega), if_neg (by omega), if_neg (by omega)]; exact ⟨rfl, h.frm q22.2.1⟩)
    · refine fm_ald0 dX8_whole_30 ?_
      refine gr_7_5 dX8_whole_31 fd_X8_60 ?_
      refine gi_5_7 dX8_whole_34 fd_X8_163 ?_
      refine fm_iretI dX8_whole_37 rfl ?_
      unfold sp_whole
      first
        | (rw [if_pos (by omega)]; exact ⟨by omega, h⟩)
        | (rw [if_neg (by omega), if_pos (by omega)]; exact ⟨q22.2.2.2, h.frm q22.2.1⟩)
        | (rw [if_neg (by omega), if_neg (by omega), if_pos (by omega)]; exact ⟨rfl, h.frm q22.2.1⟩)
        | (rw [if_neg (by omega), if_neg (by omega), if_neg (by omega)]; exact ⟨rfl, h.frm q22.2.1⟩)
  · refine fm_ald0 dX8_whole_5 ?_
    refine gr_7_2 dX8_whole_6 fd_X8_18 ?_
    refine fm_ild1 dX8_whole_9 ?_
    refine fm_cvI dX8_whole_10 cl_X8_149 (k_X4_has ⟨by omega, by omega⟩ hw) ob_2 rfl rfl (by decide) rfl rfl (Nat.le_of_ble_eq_true rfl) (fun z10 s10 q10 => ?_)
    obtain ⟨q10, rfl⟩ := q10
    refine fm_if_ne (⟨by omega, by omega⟩) 18 dX8_whole_13 (by decide) (fun h13 => ?_) (fun h13 => ?_)
    · refine fm_ald0 dX8_whole_18 ?_
      refine gr_7_5 dX8_whole_19 fd_X8_60 ?_
      refine fm_cvN dX8_whole_22 cl_X8_160 (k_X5_choose hi h) ob_9 rfl rfl (by decide) rfl rfl (Nat.le_of_ble_eq_true rfl) (fun s22 q22 => ?_)
      refine fm_ild1 dX8_whole_25 ?_
      refine fm_iconst dX8_whole_26 ?_
      refine fm_icmp_ne (⟨by omega, by omega⟩) (⟨by omega, by omega⟩) 38 dX8_whole_27 (by decide) (fun h27 => ?_) (fun h27 => ?_)
      · refine fm_ald0 dX8_whole_38 ?_
        refine gr_7_5 dX8_whole_39 fd_X8_60 ?_
        refine gr_5_6 dX8_whole_42 fd_X8_166 ?_
        refine fm_ild1 dX8_whole_45 ?_
        refine fm_iald dX8_whole_46 ia_12 (by omega) (by omega) ?_
        rw [q22.2.2.1 i.toNat (by omega)]
        refine fm_bipush (by decide) dX8_whole_47 ?_
        refine fm_icmp_ne (⟨by omega, by omega⟩) (⟨by omega, by omega⟩) 57 dX8_whole_49 (by decide) (fun h49 => ?_) (fun h49 => ?_)
        · refine fm_ald0 dX8_whole_57 ?_
          refine gr_7_5 dX8_whole_58 fd_X8_60 ?_
          refine gr_5_6 dX8_whole_61 fd_X8_166 ?_
          refine fm_ild1 dX8_whole_64 ?_
          refine fm_iald dX8_whole_65 ia_12 (by omega) (by omega) ?_
          try rw [q22.2.2.1 i.toNat (by omega)]
          refine fm_iretI dX8_whole_66 rfl ?_
          unfold sp_whole
          first
            | (rw [if_pos (by omega)]; exact ⟨by omega, h⟩)
            | (rw [if_neg (by omega), if_pos (by omega)]; exact ⟨q22.2.2.2, h.frm q22.2.1⟩)
            | (rw [if_neg (by omega), if_neg (by omega), if_pos (by omega)]; exact ⟨rfl, h.frm q22.2.1⟩)
            | (rw [if_neg (by omega), if_neg (by omega), if_neg (by omega)]; exact ⟨rfl, h.frm q22.2.1⟩)
        · refine fm_bipush (by decide) dX8_whole_52 ?_
          refine fm_goto 66 dX8_whole_54 (by decide) ?_
          refine fm_iretI dX8_whole_66 rfl ?_
          unfold sp_whole
          first
            | (rw [if_pos (by omega)]; exact ⟨by omega, h⟩)
            | (rw [if_neg (by omega), if_pos (by omega)]; exact ⟨q22.2.2.2, h.frm q22.2.1⟩)
            | (rw [if_neg (by omega), if_neg (by omega), if_pos (by omega)]; exact ⟨rfl, h.frm q22.2.1⟩)
            | (rw [if_neg (by omega), if_neg (by omega), if_neg (by omega)]; exact ⟨rfl, h.frm q22.2.1⟩)
      · refine fm_ald0 dX8_whole_30 ?_
        refine gr_7_5 dX8_whole_31 fd_X8_60 ?_
        refine gi_5_7 dX8_whole_34 fd_X8_163 ?_
        refine fm_iretI dX8_whole_37 rfl ?_
        unfold sp_whole
        first
          | (rw [if_pos (by omega)]; exact ⟨by omega, h⟩)
          | (rw [if_neg (by omega), if_pos (by omega)]; exact ⟨q22.2.2.2, h.frm q22.2.1⟩)
          | (rw [if_neg (by omega), if_neg (by omega), if_pos (by omega)]; exact ⟨rfl, h.frm q22.2.1⟩)
          | (rw [if_neg (by omega), if_neg (by omega), if_neg (by omega)]; exact ⟨rfl, h.frm q22.2.1⟩)
    · refine fm_iconst dX8_whole_16 ?_
      refine fm_iretI dX8_whole_17 rfl ?_
      unfold sp_whole
      first
        | (rw [if_pos (by omega)]; exact ⟨by omega, h⟩)
        | (rw [if_neg (by omega), if_pos (by omega)]; exact ⟨q22.2.2.2, h.frm q22.2.1⟩)
        | (rw [if_neg (by omega), if_neg (by omega), if_pos (by omega)]; exact ⟨rfl, h.frm q22.2.1⟩)
        | (rw [if_neg (by omega), if_neg (by omega), if_neg (by omega)]; exact ⟨rfl, h.frm q22.2.1⟩)
set_option maxRecDepth 20000 in
set_option maxHeartbeats 4000000 in
theorem k_X8_isCounted {ω : fm_O} {σ : fm_Mem} {μ : fm_Mem} (hi : fj μ) (g : sgc μ σ) {t p : Int} (ht : 0 ≤ t ∧ t ≤ 2) (hp : 0 ≤ p ∧ p < μ 1 6) : fm_Met kc ω yX8_isCounted cX8_isCounted 3 (some .boolean) (fm_rm 2) [fm_r ω 0, fm_I t, fm_I p] σ (fm_pI fun z σ' => ((ac μ t p.toNat) ∧ z = 1 ∨ ¬ (ac μ t p.toNat) ∧ z = 0) ∧ σ = σ') := by
  refine fm_start (by decide) rfl (Nat.le_of_ble_eq_true rfl) [some (fm_r ω 0), some (fm_I t), some (fm_I p)] rfl (fun Γ => ?_)
  have hf := hi.fi
  have b6 := hf.2.1 6 (by omega)
  have s1 := (srcs_ok hf p.toNat).1
  have ec := g.2 p.toNat (by omega)
  refine fm_ild1 dX8_isCounted_0 ?_
  rcases (show t = 0 ∨ t = 1 ∨ t = 2 by omega) with hsw | hsw | hsw
  · refine fm_look (off := 27) 28 dX8_isCounted_1 (⟨by omega, by omega⟩) (by decide) (by rw [hsw]; rfl) (by decide) ?_
    refine fm_ald0 dX8_isCounted_28 ?_
    refine gr_7_5 dX8_isCounted_29 fd_X8_60 ?_
    refine gr_5_6 dX8_isCounted_32 fd_X8_166 ?_
    refine fm_ild2 dX8_isCounted_35 ?_
    refine fm_iald dX8_isCounted_36 ia_12 (by omega) (by omega) ?_
    rw [ec]
    refine fm_bipush (by decide) dX8_isCounted_37 ?_
    refine fm_icmp_ne (⟨by omega, by omega⟩) (⟨by omega, by omega⟩) 46 dX8_isCounted_39 (by decide) (fun h39 => ?_) (fun h39 => ?_)
    · refine fm_iconst dX8_isCounted_46 ?_
      exact fm_zretI dX8_isCounted_47 rfl (by omega) ⟨by omega, rfl⟩
    · refine fm_iconst dX8_isCounted_42 ?_
      refine fm_goto 47 dX8_isCounted_43 (by decide) ?_
      exact fm_zretI dX8_isCounted_47 rfl (by omega) ⟨by omega, rfl⟩
  · refine fm_look (off := 47) 48 dX8_isCounted_1 (⟨by omega, by omega⟩) (by decide) (by rw [hsw]; rfl) (by decide) ?_
    refine fm_ald0 dX8_isCounted_48 ?_
    refine gr_7_5 dX8_isCounted_49 fd_X8_60 ?_
    refine fm_ild2 dX8_isCounted_52 ?_
    refine fm_cvI dX8_isCounted_53 cl_X8_225 (k_X5_changesCopy hi g hp) ob_9 rfl rfl (by decide) rfl rfl (Nat.le_of_ble_eq_true rfl) (fun z53 s53 q53 => ?_)
    obtain ⟨q53, rfl⟩ := q53
    exact fm_zretI dX8_isCounted_56 rfl (by omega) ⟨by omega, rfl⟩
  · refine fm_look (off := 56) 57 dX8_isCounted_1 (⟨by omega, by omega⟩) (by decide) (by rw [hsw]; rfl) (by decide) ?_
    refine fm_ald0 dX8_isCounted_57 ?_
    refine gr_7_5 dX8_isCounted_58 fd_X8_60 ?_
    refine fm_ild2 dX8_isCounted_61 ?_
    refine fm_cvI dX8_isCounted_62 cl_X8_228 (k_X5_changesCamera hi g hp) ob_9 rfl rfl (by decide) rfl rfl (Nat.le_of_ble_eq_true rfl) (fun z62 s62 q62 => ?_)
    obtain ⟨q62, rfl⟩ := q62
    exact fm_zretI dX8_isCounted_65 rfl (by omega) ⟨by omega, rfl⟩
set_option maxRecDepth 20000 in
set_option maxHeartbeats 4000000 in
theorem l_about {ω : fm_O} {σ τ : fm_Mem} {Γ : fm_G} {μ : fm_Mem} (hi : fj μ) (g : sgc μ τ) {t : Int} (ht : 0 ≤ t ∧ t ≤ 2) : ∀ (d : Nat) (p b : Int), 0 ≤ p → p + d = μ 1 6 → b = acn μ t p.toNat → fm_W kc ω Γ (cX8_about, RX8, fm_rm 6, 4, (some .int)) (fm_pI fun z σ' => z = acn μ t (μ 1 6).toNat ∧ rel μ σ') τ 21 [some (fm_r ω 0), some (fm_I t), some (fm_I b), some (fm_I p)] [] := by
  have hf := hi.fi
  have b6 := hf.2.1 6 (by omega)
  have e6 := g.1.1.2.1.1
  intro d
  induction d with
  | zero =>
    intro p b h0 hp hb
    refine fm_ild3 dX8_about_21 ?_
    refine fm_ald0 dX8_about_22 ?_
    refine gr_7_2 dX8_about_23 fd_X8_18 ?_
    refine gi_4_2 dX8_about_26 fd_X8_121 ?_
    rw [e6]
    refine fm_icmp_ge (⟨by omega, by omega⟩) (⟨by omega, by omega⟩) 50 dX8_about_29 (by decide) (fun h29 => ?_) (fun h29 => ?_)
    · refine fm_ild2 dX8_about_50 ?_
      exact fm_iretI dX8_about_51 rfl ⟨by rw [hb, show p = μ 1 6 by omega], g.1.1⟩
    · exfalso; omega
  | succ d ih =>
    intro p b h0 hp hb
    have e1 : (p + 1).toNat = p.toNat + 1 := by omega
    refine fm_ild3 dX8_about_21 ?_
    refine fm_ald0 dX8_about_22 ?_
    refine gr_7_2 dX8_about_23 fd_X8_18 ?_
    refine gi_4_2 dX8_about_26 fd_X8_121 ?_
    rw [e6]
    refine fm_icmp_ge (⟨by omega, by omega⟩) (⟨by omega, by omega⟩) 50 dX8_about_29 (by decide) (fun h29 => ?_) (fun h29 => ?_)
    · exfalso; omega
    · refine fm_ald0 dX8_about_32 ?_
      refine fm_ild1 dX8_about_33 ?_
      refine fm_ild3 dX8_about_34 ?_
      refine fm_cvI dX8_about_35 cl_X8_169 (k_X8_isCounted hi g ht (by omega)) ob_0 rfl rfl (by decide) rfl rfl (Nat.le_of_ble_eq_true rfl) (fun z35 s35 q35 => ?_)
      obtain ⟨q35, rfl⟩ := q35
      refine fm_if_eq (⟨by omega, by omega⟩) 44 dX8_about_38 (by decide) (fun h38 => ?_) (fun h38 => ?_)
      · refine fm_inc3 rfl dX8_about_44 ?_
        refine fm_goto 21 dX8_about_47 (by decide) ?_
        refine ih (p + 1) _ (by omega) (by omega) ?_
        rw [e1, acn]
        first
          | (rw [if_pos (by omega)]; omega)
          | (rw [if_neg (by omega)]; omega)
      · refine fm_inc2 rfl dX8_about_41 ?_
        refine fm_inc3 rfl dX8_about_44 ?_
        refine fm_goto 21 dX8_about_47 (by decide) ?_
        refine ih (p + 1) _ (by omega) (by omega) ?_
        rw [e1, acn]
        first
          | (rw [if_pos (by omega)]; omega)
          | (rw [if_neg (by omega)]; omega)
set_option maxRecDepth 20000 in
set_option maxHeartbeats 4000000 in
theorem k_X8_about {ω : fm_O} {σ : fm_Mem} {μ : fm_Mem} (hi : fj μ) (h : rel μ σ) {t : Int} (rt : fm_R t) : fm_Met kc ω yX8_about cX8_about 4 (some .int) (fm_rm 6) [fm_r ω 0, fm_I t] σ (fm_pI fun z σ' => z = sp_about μ t ∧ rel μ σ') := by
  refine fm_start (by decide) rfl (Nat.le_of_ble_eq_true rfl) [some (fm_r ω 0), some (fm_I t), none, none] rfl (fun Γ => ?_)
  have hf := hi.fi
  have hw := rel.cw hf h
  have e0 := h.1.1
  have b0 := hf.1
  have b6 := hf.2.1 6 (by omega)
  have e6 := h.2.1.1
  refine fm_ild1 dX8_about_0 ?_
  refine fm_iconst dX8_about_1 ?_
  refine fm_csI dX8_about_2 cl_X8_72 (k_X8_isWithin ⟨by omega, by omega⟩ ⟨by omega, by omega⟩) rfl rfl (by decide) rfl rfl (Nat.le_of_ble_eq_true rfl) (fun z2 s2 q2 => ?_)
  obtain ⟨q2, rfl⟩ := q2
  refine fm_if_ne (⟨by omega, by omega⟩) 10 dX8_about_5 (by decide) (fun h5 => ?_) (fun h5 => ?_)
  · refine fm_ald0 dX8_about_10 ?_
    refine gr_7_5 dX8_about_11 fd_X8_60 ?_
    refine fm_cvN dX8_about_14 cl_X8_160 (k_X5_choose hi h) ob_9 rfl rfl (by decide) rfl rfl (Nat.le_of_ble_eq_true rfl) (fun s14 q14 => ?_)
    refine fm_iconst dX8_about_17 ?_
    refine fm_ist2 rfl dX8_about_18 ?_
    refine fm_iconst dX8_about_19 ?_
    refine fm_ist3 rfl dX8_about_20 ?_
    have hl := l_about (ω := ω) (σ := σ) (Γ := Γ) hi ⟨q14.1, q14.2.2.1⟩ (t := t) (by omega) (μ 1 6).toNat 0 0 (by omega) (by omega) rfl
    unfold sp_about
    rw [if_neg (by omega)]
    exact hl
  · refine fm_iconst dX8_about_8 ?_
    refine fm_iretI dX8_about_9 rfl ?_
    unfold sp_about
    rw [if_pos (by omega)]
    exact ⟨rfl, h⟩
set_option maxRecDepth 20000 in
set_option maxHeartbeats 4000000 in
theorem k_X8_mend {ω : fm_O} {σ : fm_Mem} {μ : fm_Mem} (hi : fj μ) (h : rel μ σ) {p : Int} (rp : fm_R p) : fm_Met kc ω yX8_mend cX8_mend 3 (some .int) (fm_rm 6) [fm_r ω 0, fm_I p] σ (fm_pI fun z σ' => z = (sp_mend μ p).1 ∧ rel (sp_mend μ p).2 σ') := by
  refine fm_start (by decide) rfl (Nat.le_of_ble_eq_true rfl) [some (fm_r ω 0), some (fm_I p), none] rfl (fun Γ => ?_)
  have hf := hi.fi
  have hw := rel.cw hf h
  have e0 := h.1.1
  have b0 := hf.1
  have b6 := hf.2.1 6 (by omega)
  have e6 := h.2.1.1
  have b16 := hf.2.2.2.2.2.2.2.2.2.2.2.2.2.1
  refine fm_ald0 dX8_mend_0 ?_
  refine gr_7_2 dX8_mend_1 fd_X8_18 ?_
  refine fm_ild1 dX8_mend_4 ?_
  refine fm_cvI dX8_mend_5 cl_X8_149 (k_X4_has ⟨by omega, by omega⟩ hw) ob_2 rfl rfl (by decide) rfl rfl (Nat.le_of_ble_eq_true rfl) (fun z5 s5 q5 => ?_)
  obtain ⟨q5, rfl⟩ := q5
  refine fm_if_ne (⟨by omega, by omega⟩) 13 dX8_mend_8 (by decide) (fun h8 => ?_) (fun h8 => ?_)
  · refine fm_ald0 dX8_mend_13 ?_
    refine gr_7_5 dX8_mend_14 fd_X8_60 ?_
    refine fm_cvN dX8_mend_17 cl_X8_160 (k_X5_choose hi h) ob_9 rfl rfl (by decide) rfl rfl (Nat.le_of_ble_eq_true rfl) (fun s17 q17 => ?_)
    have g : sgc μ s17 := ⟨q17.1, q17.2.2.1⟩
    have e16 := g.1.1.2.2.2.2.2.1
    obtain ⟨s1, s2⟩ := srcs_ok hf p.toNat
    have ec := g.2 p.toNat (by omega)
    have sb := std_b (μ := μ) (c := srcs μ p.toNat) (p := p.toNat) (by omega)
    have cs : srcs μ p.toNat < 6 → 0 ≤ μ 1 (srcs μ p.toNat) ∧ μ 1 (srcs μ p.toNat) ≤ 40 := fun q => hf.2.1 _ (by omega)
    have w1 := wn_b hf (p.toNat - 1) (srcs μ p.toNat)
    have w2 := wn_b hf (p.toNat + 1) (srcs μ p.toNat)
    refine fm_ald0 dX8_mend_20 ?_
    refine gr_7_5 dX8_mend_21 fd_X8_60 ?_
    refine fm_ild1 dX8_mend_24 ?_
    refine fm_cvI dX8_mend_25 cl_X8_172 (k_X5_canBeMended hi g (by omega)) ob_9 rfl rfl (by decide) rfl rfl (Nat.le_of_ble_eq_true rfl) (fun z25 s25 q25 => ?_)
    obtain ⟨q25, rfl⟩ := q25
    refine fm_if_ne (⟨by omega, by omega⟩) 34 dX8_mend_28 (by decide) (fun h28 => ?_) (fun h28 => ?_)
    · have em : (p - 1).toNat = p.toNat - 1 := by omega
      have ep : (p + 1).toNat = p.toNat + 1 := by omega
      refine fm_ald0 dX8_mend_34 ?_
      refine gr_7_5 dX8_mend_35 fd_X8_60 ?_
      refine fm_ild1 dX8_mend_38 ?_
      refine fm_iconst dX8_mend_39 ?_
      refine fm_isub dX8_mend_40 ?_
      refine fm_cvI dX8_mend_41 cl_X8_175 (k_X5_wearOf hi g (p := p - 1) (by omega) (by rw [em]; omega)) ob_9 rfl rfl (by decide) rfl rfl (Nat.le_of_ble_eq_true rfl) (fun z41 s41 q41 => ?_)
      obtain ⟨rfl, rfl⟩ := q41
      rw [em, show srcs μ (p.toNat - 1) = srcs μ p.toNat by omega]
      refine fm_ald0 dX8_mend_44 ?_
      refine gr_7_5 dX8_mend_45 fd_X8_60 ?_
      refine fm_ild1 dX8_mend_48 ?_
      refine fm_iconst dX8_mend_49 ?_
      refine fm_iadd dX8_mend_50 ?_
      refine fm_cvI dX8_mend_51 cl_X8_175 (k_X5_wearOf hi g (p := p + 1) (by omega) (by rw [ep]; omega)) ob_9 rfl rfl (by decide) rfl rfl (Nat.le_of_ble_eq_true rfl) (fun z51 s51 q51 => ?_)
      obtain ⟨rfl, rfl⟩ := q51
      rw [ep, show srcs μ (p.toNat + 1) = srcs μ p.toNat by omega]
      refine fm_max dX8_mend_54 cl_X8_178 (by decide) (Nat.le_of_ble_eq_true rfl) (⟨by omega, by omega⟩) (⟨by omega, by omega⟩) ?_
      refine fm_top (show _ = mdv μ p.toNat from rfl) ?_
      refine fm_ist2 rfl dX8_mend_57 ?_
      refine fm_ald0 dX8_mend_58 ?_
      refine fm_ald0 dX8_mend_59 ?_
      refine gr_7_5 dX8_mend_60 fd_X8_60 ?_
      refine gr_5_6 dX8_mend_63 fd_X8_166 ?_
      refine fm_ild1 dX8_mend_66 ?_
      refine fm_iald dX8_mend_67 ia_12 (by omega) (by omega) ?_
      rw [ec]
      refine fm_ald0 dX8_mend_68 ?_
      refine gr_7_5 dX8_mend_69 fd_X8_60 ?_
      refine fm_ild1 dX8_mend_72 ?_
      refine fm_cvI dX8_mend_73 cl_X8_184 (k_X5_frameOf hi g (by omega) (by omega)) ob_9 rfl rfl (by decide) rfl rfl (Nat.le_of_ble_eq_true rfl) (fun z73 s73 q73 => ?_)
      obtain ⟨rfl, rfl⟩ := q73
      refine fm_ild2 dX8_mend_76 ?_
      refine fm_cvN dX8_mend_77 cl_X8_118 (k_X8_changeWear (by omega) (by omega) (by omega) (by omega)) ob_0 rfl rfl (by decide) rfl rfl (Nat.le_of_ble_eq_true rfl) (fun s77 q77 => ?_)
      subst q77
      refine fm_ild2 dX8_mend_80 ?_
      refine fm_iretI dX8_mend_81 rfl ?_
      unfold sp_mend
      first
        | (rw [if_pos (by omega)]; exact ⟨by omega, h⟩)
        | (rw [if_neg (by omega), if_pos (by omega)]; exact ⟨by omega, g.1.1⟩)
        | (rw [if_neg (by omega), if_neg (by omega)]; exact ⟨rfl, rel_kp g.1.1 (by omega) (by omega) (by omega)⟩)
    · refine fm_bipush (by decide) dX8_mend_31 ?_
      refine fm_iretI dX8_mend_33 rfl ?_
      unfold sp_mend
      first
        | (rw [if_pos (by omega)]; exact ⟨by omega, h⟩)
        | (rw [if_neg (by omega), if_pos (by omega)]; exact ⟨by omega, g.1.1⟩)
        | (rw [if_neg (by omega), if_neg (by omega)]; exact ⟨rfl, rel_kp g.1.1 (by omega) (by omega) (by omega)⟩)
  · refine fm_iconst dX8_mend_11 ?_
    refine fm_iretI dX8_mend_12 rfl ?_
    unfold sp_mend
    first
      | (rw [if_pos (by omega)]; exact ⟨by omega, h⟩)
      | (rw [if_neg (by omega), if_pos (by omega)]; exact ⟨by omega, g.1.1⟩)
      | (rw [if_neg (by omega), if_neg (by omega)]; exact ⟨rfl, rel_kp g.1.1 (by omega) (by omega) (by omega)⟩)
set_option maxRecDepth 20000 in
set_option maxHeartbeats 4000000 in
theorem k_tO {ω : fm_O} {τ μ : fm_Mem} (hi : fj μ) (h : rel μ τ) {c i : Int} (rc : fm_R c) (ri : fm_R i) : fm_Met kc ω yX2_tintOf cX2_tintOf 4 (some .int) (fm_rm 0) [fm_r ω 13, fm_I c, fm_I i] τ (fm_pI fun z σ' => z = ltn μ c i ∧ τ = σ') := by
  have hf := hi.fi
  have b7 := hf.2.2.2.2.2.2.2.2.2.1
  have e7 := h.2.2.2.1.1
  have hk := h.2.2.2.1.2
  have k1 := k_X2_tintOf (ω := ω) (σ := τ) rc ri (fun k hk2 => by
    obtain ⟨q1, q2, q3, q4⟩ := hk k hk2
    obtain ⟨z1, z2, z3, z4⟩ := hf.2.2.2.2.2.2.2.2.2.2.1 k
    rw [q1, q2, q3]
    exact ⟨z1, z2, z3⟩) (by omega) (by omega)
  have e : ltint (τ 14) (τ 15) (τ 16) (τ 17) c i (τ 13 4).toNat = ltn μ c i := by
    unfold ltn
    rw [e7]
    exact ltint_cong _ (fun k hk2 => hk k (by omega))
  rw [e] at k1
  exact k1
set_option maxRecDepth 20000 in
set_option maxHeartbeats 4000000 in
theorem l_tlw {ω : fm_O} {τ : fm_Mem} {Γ : fm_G} {μ : fm_Mem} (hi : fj μ) (g : sg μ τ) {p : Int} (hp : 0 ≤ p ∧ p < μ 1 6) : ∀ (d : Nat) (c b1 b2 : Int) (o5 o6 : Option Value), 0 ≤ c → c + d = μ 0 0 → b1 = (tlw μ p.toNat 10 c.toNat).1 → b2 = (tlw μ p.toNat 10 c.toNat).2 → fm_W kc ω Γ (cX8_tintOfLeastWorn, RX8, fm_rm 1, 7, (some .int)) (fm_pI fun z σ' => z = (tlw μ p.toNat 10 (μ 0 0).toNat).2 ∧ τ = σ') τ 8 [some (fm_r ω 0), some (fm_I p), some (fm_I b1), some (fm_I b2), some (fm_I c), o5, o6] [] := by
  have hf := hi.fi
  have b6 := hf.2.1 6 (by omega)
  have b0 := hf.1
  have e0 := g.1.1.1
  intro d
  induction d with
  | zero =>
    intro c b1 b2 o5 o6 h0 hc h1 h2
    refine fm_ild4 dX8_tintOfLeastWorn_8 ?_
    refine fm_ald0 dX8_tintOfLeastWorn_10 ?_
    refine gi_7_1 dX8_tintOfLeastWorn_11 fd_X8_64 ?_
    rw [e0]
    refine fm_icmp_ge (⟨by omega, by omega⟩) (⟨by omega, by omega⟩) 100 dX8_tintOfLeastWorn_14 (by decide) (fun h14 => ?_) (fun h14 => ?_)
    · refine fm_ild3 dX8_tintOfLeastWorn_100 ?_
      exact fm_iretI dX8_tintOfLeastWorn_101 rfl ⟨by rw [h2, show c = μ 0 0 by omega], rfl⟩
    · exfalso; omega
  | succ d ih =>
    intro c b1 b2 o5 o6 h0 hc h1 h2
    have e1 : (c + 1).toNat = c.toNat + 1 := by omega
    have tb := tlw_b hf p.toNat (b0 := 10) (by omega) c.toNat
    have wb := wn_b hf p.toNat c.toNat
    have ob := tof_b hf p.toNat c.toNat
    have sb := std_b (μ := μ) (c := c.toNat) (p := p.toNat) (by omega)
    have cb := hf.2.1 c.toNat (by omega)
    have es : τ (57 + c.toNat) p.toNat = std μ c.toNat p.toNat := g.2 _ _ (by omega) (by omega)
    have lb := ltn_b hf c (std μ c.toNat p.toNat)
    have ot : tof μ p.toNat c.toNat = if std μ c.toNat p.toNat < 0 then 0 else ltn μ c (std μ c.toNat p.toNat) := by
      unfold tof
      rw [show ((c.toNat : Nat) : Int) = c by omega]
    have ew : 0 ≤ std μ c.toNat p.toNat → τ (39 + c.toNat) (std μ c.toNat p.toNat).toNat = wn μ p.toNat c.toNat := fun q => ((g.1.1.2 c.toNat (by omega)).2 _ (by omega)).2.1
    have J : ∀ v : Int, v = tof μ p.toNat c.toNat → (v ≠ 0 → 0 ≤ std μ c.toNat p.toNat) → ∀ o6 : Option Value, fm_W kc ω Γ (cX8_tintOfLeastWorn, RX8, fm_rm 1, 7, (some .int)) (fm_pI fun z σ' => z = (tlw μ p.toNat 10 (μ 0 0).toNat).2 ∧ τ = σ') τ 53 [some (fm_r ω 0), some (fm_I p), some (fm_I b1), some (fm_I b2), some (fm_I c), some (fm_I (std μ c.toNat p.toNat)), o6] [fm_I v] := by
      intro v hv hv2 o6
      refine fm_ist6 rfl dX8_tintOfLeastWorn_53 ?_
      refine fm_ild6 dX8_tintOfLeastWorn_55 ?_
      refine fm_if_eq (⟨by omega, by omega⟩) 94 dX8_tintOfLeastWorn_57 (by decide) (fun h57 => ?_) (fun h57 => ?_)
      · refine fm_inc4 rfl dX8_tintOfLeastWorn_94 ?_
        refine fm_goto 8 dX8_tintOfLeastWorn_97 (by decide) ?_
        refine ih (c + 1) _ _ _ _ (by omega) (by omega) ?_ ?_
        · rw [e1, tlw]
          first
            | (rw [if_pos (by omega)]; done)
            | (rw [if_neg (by omega)]; exact h1)
        · rw [e1, tlw]
          first
            | (rw [if_pos (by omega)]; exact hv)
            | (rw [if_neg (by omega)]; exact h2)
      · refine fm_ald0 dX8_tintOfLeastWorn_60 ?_
        refine gr_7_0 dX8_tintOfLeastWorn_61 fd_X8_11 ?_
        refine fm_ild4 dX8_tintOfLeastWorn_64 ?_
        refine ar_1 (by omega) (by omega) dX8_tintOfLeastWorn_66 ?_
        refine gr_3_1 (by omega) dX8_tintOfLeastWorn_67 fd_X8_112 ?_
        refine fm_ild5 dX8_tintOfLeastWorn_70 ?_
        refine fm_iald dX8_tintOfLeastWorn_72 (ia_rw (by omega)) (by omega) (by omega) ?_
        rw [ew (by omega)]
        refine fm_ild2 dX8_tintOfLeastWorn_73 ?_
        refine fm_icmp_ge (⟨by omega, by omega⟩) (⟨by omega, by omega⟩) 94 dX8_tintOfLeastWorn_74 (by decide) (fun h74 => ?_) (fun h74 => ?_)
        · refine fm_inc4 rfl dX8_tintOfLeastWorn_94 ?_
          refine fm_goto 8 dX8_tintOfLeastWorn_97 (by decide) ?_
          refine ih (c + 1) _ _ _ _ (by omega) (by omega) ?_ ?_
          · rw [e1, tlw]
            first
              | (rw [if_pos (by omega)]; done)
              | (rw [if_neg (by omega)]; exact h1)
          · rw [e1, tlw]
            first
              | (rw [if_pos (by omega)]; exact hv)
              | (rw [if_neg (by omega)]; exact h2)
        · refine fm_ald0 dX8_tintOfLeastWorn_77 ?_
          refine gr_7_0 dX8_tintOfLeastWorn_78 fd_X8_11 ?_
          refine fm_ild4 dX8_tintOfLeastWorn_81 ?_
          refine ar_1 (by omega) (by omega) dX8_tintOfLeastWorn_83 ?_
          refine gr_3_1 (by omega) dX8_tintOfLeastWorn_84 fd_X8_112 ?_
          refine fm_ild5 dX8_tintOfLeastWorn_87 ?_
          refine fm_iald dX8_tintOfLeastWorn_89 (ia_rw (by omega)) (by omega) (by omega) ?_
          try rw [ew (by omega)]
          refine fm_ist2 rfl dX8_tintOfLeastWorn_90 ?_
          refine fm_ild6 dX8_tintOfLeastWorn_91 ?_
          refine fm_ist3 rfl dX8_tintOfLeastWorn_93 ?_
          refine fm_inc4 rfl dX8_tintOfLeastWorn_94 ?_
          refine fm_goto 8 dX8_tintOfLeastWorn_97 (by decide) ?_
          refine ih (c + 1) _ _ _ _ (by omega) (by omega) ?_ ?_
          · rw [e1, tlw]
            first
              | (rw [if_pos (by omega)]; done)
              | (rw [if_neg (by omega)]; exact h1)
          · rw [e1, tlw]
            first
              | (rw [if_pos (by omega)]; exact hv)
              | (rw [if_neg (by omega)]; exact h2)
    refine fm_ild4 dX8_tintOfLeastWorn_8 ?_
    refine fm_ald0 dX8_tintOfLeastWorn_10 ?_
    refine gi_7_1 dX8_tintOfLeastWorn_11 fd_X8_64 ?_
    rw [e0]
    refine fm_icmp_ge (⟨by omega, by omega⟩) (⟨by omega, by omega⟩) 100 dX8_tintOfLeastWorn_14 (by decide) (fun h14 => ?_) (fun h14 => ?_)
    · exfalso; omega
    · refine fm_ald0 dX8_tintOfLeastWorn_17 ?_
      refine gr_7_5 dX8_tintOfLeastWorn_18 fd_X8_60 ?_
      refine gr_5_4 dX8_tintOfLeastWorn_21 fd_X8_156 ?_
      refine fm_ild4 dX8_tintOfLeastWorn_24 ?_
      refine ar_10 (by omega) (by omega) dX8_tintOfLeastWorn_26 ?_
      refine fm_ild1 dX8_tintOfLeastWorn_27 ?_
      refine fm_iald dX8_tintOfLeastWorn_28 (ia_sd (by omega)) (by omega) (by omega) ?_
      rw [es]
      refine fm_ist5 rfl dX8_tintOfLeastWorn_29 ?_
      refine fm_ild5 dX8_tintOfLeastWorn_31 ?_
      refine fm_bipush (by decide) dX8_tintOfLeastWorn_33 ?_
      refine fm_icmp_ne (⟨by omega, by omega⟩) (⟨by omega, by omega⟩) 42 dX8_tintOfLeastWorn_35 (by decide) (fun h35 => ?_) (fun h35 => ?_)
      · refine fm_ald0 dX8_tintOfLeastWorn_42 ?_
        refine gr_7_6 dX8_tintOfLeastWorn_43 fd_X8_36 ?_
        refine fm_ild4 dX8_tintOfLeastWorn_46 ?_
        refine fm_ild5 dX8_tintOfLeastWorn_48 ?_
        refine fm_cvI dX8_tintOfLeastWorn_50 cl_X8_191 (k_tO hi g.1 ⟨by omega, by omega⟩ ⟨by omega, by omega⟩) ob_13 rfl rfl (by decide) rfl rfl (Nat.le_of_ble_eq_true rfl) (fun z50 s50 q50 => ?_)
        obtain ⟨rfl, rfl⟩ := q50
        refine J _ ?_ (by omega) _
        rw [ot]
        first
          | (rw [if_pos (by omega)]; done)
          | (rw [if_neg (by omega)]; done)
      · refine fm_iconst dX8_tintOfLeastWorn_38 ?_
        refine fm_goto 53 dX8_tintOfLeastWorn_39 (by decide) ?_
        refine J _ ?_ (by omega) _
        rw [ot]
        first
          | (rw [if_pos (by omega)]; done)
          | (rw [if_neg (by omega)]; done)
set_option maxRecDepth 20000 in
set_option maxHeartbeats 4000000 in
theorem k_X8_tintOfLeastWorn {ω : fm_O} {σ : fm_Mem} {μ : fm_Mem} (hi : fj μ) (g : sg μ σ) {p : Int} (hp : 0 ≤ p ∧ p < μ 1 6) : fm_Met kc ω yX8_tintOfLeastWorn cX8_tintOfLeastWorn 7 (some .int) (fm_rm 1) [fm_r ω 0, fm_I p] σ (fm_pI fun z σ' => z = (tlw μ p.toNat 10 (μ 0 0).toNat).2 ∧ σ = σ') := by
  refine fm_start (by decide) rfl (Nat.le_of_ble_eq_true rfl) [some (fm_r ω 0), some (fm_I p), none, none, none, none, none] rfl (fun Γ => ?_)
  have b0 := hi.fi.1
  refine fm_bipush (by decide) dX8_tintOfLeastWorn_0 ?_
  refine fm_ist2 rfl dX8_tintOfLeastWorn_2 ?_
  refine fm_iconst dX8_tintOfLeastWorn_3 ?_
  refine fm_ist3 rfl dX8_tintOfLeastWorn_4 ?_
  refine fm_iconst dX8_tintOfLeastWorn_5 ?_
  refine fm_ist4 rfl dX8_tintOfLeastWorn_6 ?_
  exact l_tlw hi g hp (μ 0 0).toNat 0 10 0 _ _ (by omega) (by omega) rfl rfl
set_option maxRecDepth 20000 in
set_option maxHeartbeats 4000000 in
theorem k_X8_tint {ω : fm_O} {σ : fm_Mem} {μ : fm_Mem} (hi : fj μ) (h : rel μ σ) {p : Int} (rp : fm_R p) : fm_Met kc ω yX8_tint cX8_tint 4 (some .int) (fm_rm 6) [fm_r ω 0, fm_I p] σ (fm_pI fun z σ' => z = sp_tint μ p ∧ rel μ σ') := by
  refine fm_start (by decide) rfl (Nat.le_of_ble_eq_true rfl) [some (fm_r ω 0), some (fm_I p), none, none] rfl (fun Γ => ?_)
  have hf := hi.fi
  have hw := rel.cw hf h
  have e0 := h.1.1
  have b0 := hf.1
  have b6 := hf.2.1 6 (by omega)
  have e6 := h.2.1.1
  refine fm_ald0 dX8_tint_0 ?_
  refine gr_7_2 dX8_tint_1 fd_X8_18 ?_
  refine fm_ild1 dX8_tint_4 ?_
  refine fm_cvI dX8_tint_5 cl_X8_149 (k_X4_has ⟨by omega, by omega⟩ hw) ob_2 rfl rfl (by decide) rfl rfl (Nat.le_of_ble_eq_true rfl) (fun z5 s5 q5 => ?_)
  obtain ⟨q5, rfl⟩ := q5
  refine fm_if_ne (⟨by omega, by omega⟩) 13 dX8_tint_8 (by decide) (fun h8 => ?_) (fun h8 => ?_)
  · refine fm_ald0 dX8_tint_13 ?_
    refine gr_7_5 dX8_tint_14 fd_X8_60 ?_
    refine fm_cvN dX8_tint_17 cl_X8_160 (k_X5_choose hi h) ob_9 rfl rfl (by decide) rfl rfl (Nat.le_of_ble_eq_true rfl) (fun s17 q17 => ?_)
    have g : sgc μ s17 := ⟨q17.1, q17.2.2.1⟩
    obtain ⟨s1, s2⟩ := srcs_ok hf p.toNat
    have ec := g.2 p.toNat (by omega)
    have sb := std_b (μ := μ) (c := srcs μ p.toNat) (p := p.toNat) (by omega)
    have cs : srcs μ p.toNat < 6 → 0 ≤ μ 1 (srcs μ p.toNat) ∧ μ 1 (srcs μ p.toNat) ≤ 40 := fun q => hf.2.1 _ (by omega)
    have ob := otn_b hf p.toNat
    have oe : otn μ p.toNat = if srcs μ p.toNat = 6 then 0 else ltn μ (srcs μ p.toNat) (std μ (srcs μ p.toNat) p.toNat) := rfl
    
    refine fm_ald0 dX8_tint_20 ?_
    refine gr_7_5 dX8_tint_21 fd_X8_60 ?_
    refine gr_5_6 dX8_tint_24 fd_X8_166 ?_
    refine fm_ild1 dX8_tint_27 ?_
    refine fm_iald dX8_tint_28 ia_12 (by omega) (by omega) ?_
    rw [ec]
    refine fm_ist2 rfl dX8_tint_29 ?_
    refine fm_ild2 dX8_tint_30 ?_
    refine fm_bipush (by decide) dX8_tint_31 ?_
    refine fm_icmp_ne (⟨by omega, by omega⟩) (⟨by omega, by omega⟩) 40 dX8_tint_33 (by decide) (fun h33 => ?_) (fun h33 => ?_)
    · refine fm_ald0 dX8_tint_40 ?_
      refine gr_7_6 dX8_tint_41 fd_X8_36 ?_
      refine fm_ild2 dX8_tint_44 ?_
      refine fm_ald0 dX8_tint_45 ?_
      refine gr_7_5 dX8_tint_46 fd_X8_60 ?_
      refine fm_ild1 dX8_tint_49 ?_
      refine fm_cvI dX8_tint_50 cl_X8_184 (k_X5_frameOf hi g (by omega) (by omega)) ob_9 rfl rfl (by decide) rfl rfl (Nat.le_of_ble_eq_true rfl) (fun z50 s50 q50 => ?_)
      obtain ⟨rfl, rfl⟩ := q50
      refine fm_cvI dX8_tint_53 cl_X8_191 (k_tO hi g.1.1 ⟨by omega, by omega⟩ ⟨by omega, by omega⟩) ob_13 rfl rfl (by decide) rfl rfl (Nat.le_of_ble_eq_true rfl) (fun z53 s53 q53 => ?_)
      obtain ⟨rfl, rfl⟩ := q53
      rw [← (show otn μ p.toNat = ltn μ (srcs μ p.toNat) (std μ (srcs μ p.toNat) p.toNat) by rw [oe, if_neg (by omega)])]
      refine fm_ist3 rfl dX8_tint_56 ?_
      refine fm_ild3 dX8_tint_57 ?_
      refine fm_if_eq (⟨by omega, by omega⟩) 65 dX8_tint_58 (by decide) (fun h58 => ?_) (fun h58 => ?_)
      · refine fm_ald0 dX8_tint_65 ?_
        refine fm_ild1 dX8_tint_66 ?_
        refine fm_cvI dX8_tint_67 cl_X8_194 (k_X8_tintOfLeastWorn hi g.1 (by omega)) ob_0 rfl rfl (by decide) rfl rfl (Nat.le_of_ble_eq_true rfl) (fun z67 s67 q67 => ?_)
        obtain ⟨rfl, rfl⟩ := q67
        refine fm_iretI dX8_tint_70 rfl ?_
        unfold sp_tint
        first
          | (rw [if_pos (by omega)]; exact ⟨by omega, h⟩)
          | (rw [if_neg (by omega), if_pos (by omega)]; exact ⟨by omega, g.1.1⟩)
          | (rw [if_neg (by omega), if_neg (by omega)]; exact ⟨rfl, g.1.1⟩)
      · refine fm_ild3 dX8_tint_61 ?_
        refine fm_goto 70 dX8_tint_62 (by decide) ?_
        refine fm_iretI dX8_tint_70 rfl ?_
        unfold sp_tint
        first
          | (rw [if_pos (by omega)]; exact ⟨by omega, h⟩)
          | (rw [if_neg (by omega), if_pos (by omega)]; exact ⟨by omega, g.1.1⟩)
          | (rw [if_neg (by omega), if_neg (by omega)]; exact ⟨rfl, g.1.1⟩)
    · refine fm_iconst dX8_tint_36 ?_
      refine fm_top (show (0 : Int) = otn μ p.toNat by rw [oe, if_pos (by omega)]) ?_
      refine fm_goto 56 dX8_tint_37 (by decide) ?_
      refine fm_ist3 rfl dX8_tint_56 ?_
      refine fm_ild3 dX8_tint_57 ?_
      refine fm_if_eq (⟨by omega, by omega⟩) 65 dX8_tint_58 (by decide) (fun h58 => ?_) (fun h58 => ?_)
      · refine fm_ald0 dX8_tint_65 ?_
        refine fm_ild1 dX8_tint_66 ?_
        refine fm_cvI dX8_tint_67 cl_X8_194 (k_X8_tintOfLeastWorn hi g.1 (by omega)) ob_0 rfl rfl (by decide) rfl rfl (Nat.le_of_ble_eq_true rfl) (fun z67 s67 q67 => ?_)
        obtain ⟨rfl, rfl⟩ := q67
        refine fm_iretI dX8_tint_70 rfl ?_
        unfold sp_tint
        first
          | (rw [if_pos (by omega)]; exact ⟨by omega, h⟩)
          | (rw [if_neg (by omega), if_pos (by omega)]; exact ⟨by omega, g.1.1⟩)
          | (rw [if_neg (by omega), if_neg (by omega)]; exact ⟨rfl, g.1.1⟩)
      · refine fm_ild3 dX8_tint_61 ?_
        refine fm_goto 70 dX8_tint_62 (by decide) ?_
        refine fm_iretI dX8_tint_70 rfl ?_
        unfold sp_tint
        first
          | (rw [if_pos (by omega)]; exact ⟨by omega, h⟩)
          | (rw [if_neg (by omega), if_pos (by omega)]; exact ⟨by omega, g.1.1⟩)
          | (rw [if_neg (by omega), if_neg (by omega)]; exact ⟨rfl, g.1.1⟩)
  · refine fm_iconst dX8_tint_11 ?_
    refine fm_iretI dX8_tint_12 rfl ?_
    unfold sp_tint
    first
      | (rw [if_pos (by omega)]; exact ⟨by omega, h⟩)
      | (rw [if_neg (by omega), if_pos (by omega)]; exact ⟨by omega, g.1.1⟩)
      | (rw [if_neg (by omega), if_neg (by omega)]; exact ⟨rfl, g.1.1⟩)
