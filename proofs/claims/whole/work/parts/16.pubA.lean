set_option maxRecDepth 20000 in
set_option maxHeartbeats 4000000 in
theorem k_X8_copy {ω : fm_O} {σ : fm_Mem} {μ : fm_Mem} (hi : fj μ) (h : rel μ σ)  : fm_Met kc ω yX8_copy cX8_copy 1 (some .int) (fm_rm 0) [fm_r ω 0] σ (fm_pI fun z σ' => z = (sp_copy μ).1 ∧ rel (sp_copy μ).2 σ') := by
  refine fm_start (by decide) rfl (Nat.le_of_ble_eq_true rfl) [some (fm_r ω 0)] rfl (fun Γ => ?_)
  have hf := hi.fi
  have hw := rel.cw hf h
  have e0 := h.1.1
  have b0 := hf.1
  refine fm_ald0 dX8_copy_0 ?_
  refine gi_7_1 dX8_copy_1 fd_X8_64 ?_
  try simp (disch := omega) only [fm_up_ne, fm_up_nj, fm_up_eq]
  refine fm_bipush (by decide) dX8_copy_4 ?_
  refine fm_icmp_lt (⟨by omega, by omega⟩) (⟨by omega, by omega⟩) 12 dX8_copy_6 (by decide) (fun h6 => ?_) (fun h6 => ?_)
  · refine fm_ald0 dX8_copy_12 ?_
    refine fm_dupR dX8_copy_13 ?_
    refine gi_7_1 dX8_copy_14 fd_X8_64 ?_
    try simp (disch := omega) only [fm_up_ne, fm_up_nj, fm_up_eq]
    refine fm_iconst dX8_copy_17 ?_
    refine fm_iadd dX8_copy_18 ?_
    refine pf_7_1 dX8_copy_19 fd_X8_64 ?_
    refine fm_ald0 dX8_copy_22 ?_
    refine gi_7_1 dX8_copy_23 fd_X8_64 ?_
    try simp (disch := omega) only [fm_up_ne, fm_up_nj, fm_up_eq]
    refine fm_iconst dX8_copy_26 ?_
    refine fm_isub dX8_copy_27 ?_
    refine fm_iretI dX8_copy_28 rfl ?_
    unfold sp_copy
    first
      | (rw [if_pos (by omega)]; exact ⟨by omega, h⟩)
      | (rw [if_neg (by omega)]; exact ⟨by omega, by rw [e0]; exact rel_copy h⟩)
  · refine fm_bipush (by decide) dX8_copy_9 ?_
    refine fm_iretI dX8_copy_11 rfl ?_
    unfold sp_copy
    first
      | (rw [if_pos (by omega)]; exact ⟨by omega, h⟩)
      | (rw [if_neg (by omega)]; exact ⟨by omega, by rw [e0]; exact rel_copy h⟩)
set_option maxRecDepth 20000 in
set_option maxHeartbeats 4000000 in
theorem k_X8_frame {ω : fm_O} {σ : fm_Mem} {μ : fm_Mem} (hi : fj μ) (h : rel μ σ) {c m v cam : Int} (rc : fm_R c) (rm : fm_R m) (rv : fm_R v) (rcam : fm_R cam) : fm_Met kc ω yX8_frame cX8_frame 6 (some .int) (fm_rm 1) [fm_r ω 0, fm_I c, fm_I m, fm_I v, fm_I cam] σ (fm_pI fun z σ' => z = (sp_frame μ c m v cam).1 ∧ rel (sp_frame μ c m v cam).2 σ') := by
  refine fm_start (by decide) rfl (Nat.le_of_ble_eq_true rfl) [some (fm_r ω 0), some (fm_I c), some (fm_I m), some (fm_I v), some (fm_I cam), none] rfl (fun Γ => ?_)
  have hf := hi.fi
  have hw := rel.cw hf h
  have e0 := h.1.1
  have b0 := hf.1
  refine fm_ald0 dX8_frame_0 ?_
  refine fm_ild1 dX8_frame_1 ?_
  refine fm_cvI dX8_frame_2 cl_X8_68 (k_X8_isCopy ⟨by omega, by omega⟩ hw) ob_0 rfl rfl (by decide) rfl rfl (Nat.le_of_ble_eq_true rfl) (fun z2 s2 q2 => ?_)
  obtain ⟨q2, rfl⟩ := q2
  refine fm_if_eq (⟨by omega, by omega⟩) 35 dX8_frame_5 (by decide) (fun h5 => ?_) (fun h5 => ?_)
  · refine fm_iconst dX8_frame_35 ?_
    refine fm_iretI dX8_frame_36 rfl ?_
    unfold sp_frame
    first
      | (rw [if_pos (by omega)]; exact ⟨by omega, h⟩)
      | (rw [if_neg (by omega), if_pos (by omega)]; exact ⟨by omega, h⟩)
      | (rw [if_neg (by omega), if_neg (by omega)]; exact ⟨by simp only [fm_up_eq]; omega, rel_lay h (by omega) (by omega)⟩)
  · refine fm_ild2 dX8_frame_8 ?_
    refine fm_bipush (by decide) dX8_frame_9 ?_
    refine fm_csI dX8_frame_11 cl_X8_72 (k_X8_isWithin ⟨by omega, by omega⟩ ⟨by omega, by omega⟩) rfl rfl (by decide) rfl rfl (Nat.le_of_ble_eq_true rfl) (fun z11 s11 q11 => ?_)
    obtain ⟨q11, rfl⟩ := q11
    refine fm_if_eq (⟨by omega, by omega⟩) 35 dX8_frame_14 (by decide) (fun h14 => ?_) (fun h14 => ?_)
    · refine fm_iconst dX8_frame_35 ?_
      refine fm_iretI dX8_frame_36 rfl ?_
      unfold sp_frame
      first
        | (rw [if_pos (by omega)]; exact ⟨by omega, h⟩)
        | (rw [if_neg (by omega), if_pos (by omega)]; exact ⟨by omega, h⟩)
        | (rw [if_neg (by omega), if_neg (by omega)]; exact ⟨by simp only [fm_up_eq]; omega, rel_lay h (by omega) (by omega)⟩)
    · refine fm_ild3 dX8_frame_17 ?_
      refine fm_bipush (by decide) dX8_frame_18 ?_
      refine fm_csI dX8_frame_20 cl_X8_72 (k_X8_isWithin ⟨by omega, by omega⟩ ⟨by omega, by omega⟩) rfl rfl (by decide) rfl rfl (Nat.le_of_ble_eq_true rfl) (fun z20 s20 q20 => ?_)
      obtain ⟨q20, rfl⟩ := q20
      refine fm_if_eq (⟨by omega, by omega⟩) 35 dX8_frame_23 (by decide) (fun h23 => ?_) (fun h23 => ?_)
      · refine fm_iconst dX8_frame_35 ?_
        refine fm_iretI dX8_frame_36 rfl ?_
        unfold sp_frame
        first
          | (rw [if_pos (by omega)]; exact ⟨by omega, h⟩)
          | (rw [if_neg (by omega), if_pos (by omega)]; exact ⟨by omega, h⟩)
          | (rw [if_neg (by omega), if_neg (by omega)]; exact ⟨by simp only [fm_up_eq]; omega, rel_lay h (by omega) (by omega)⟩)
      · refine fm_ild4 dX8_frame_26 ?_
        refine fm_iconst dX8_frame_28 ?_
        refine fm_csI dX8_frame_29 cl_X8_72 (k_X8_isWithin ⟨by omega, by omega⟩ ⟨by omega, by omega⟩) rfl rfl (by decide) rfl rfl (Nat.le_of_ble_eq_true rfl) (fun z29 s29 q29 => ?_)
        obtain ⟨q29, rfl⟩ := q29
        refine fm_if_ne (⟨by omega, by omega⟩) 37 dX8_frame_32 (by decide) (fun h32 => ?_) (fun h32 => ?_)
        · refine fm_ald0 dX8_frame_37 ?_
          refine gr_7_0 dX8_frame_38 fd_X8_11 ?_
          refine fm_ild1 dX8_frame_41 ?_
          have hs := hf.2.1 c.toNat (by omega)
          have es := (h.1.2 c.toNat (by omega)).1
          refine ar_1 (by omega) (by omega) dX8_frame_42 ?_
          refine fm_ast5 rfl dX8_frame_43 ?_
          refine fm_ald5 dX8_frame_45 ?_
          refine fm_iconst dX8_frame_47 ?_
          refine fm_cvI dX8_frame_48 cl_X8_76 (k_X3_hasRoomFor (by omega) hw (by omega)) (ob_reel (by omega)) rfl rfl (by decide) rfl rfl (Nat.le_of_ble_eq_true rfl) (fun z48 s48 q48 => ?_)
          obtain ⟨q48, rfl⟩ := q48
          refine fm_if_ne (⟨by omega, by omega⟩) 57 dX8_frame_51 (by decide) (fun h51 => ?_) (fun h51 => ?_)
          · refine fm_ald5 dX8_frame_57 ?_
            refine fm_ild2 dX8_frame_59 ?_
            refine fm_ild3 dX8_frame_60 ?_
            refine fm_ild4 dX8_frame_61 ?_
            refine fm_cvN dX8_frame_63 cl_X8_79 (k_X3_append (by omega) (by omega) (by omega)) (ob_reel (by omega)) rfl rfl (by decide) rfl rfl (Nat.le_of_ble_eq_true rfl) (fun s63 q63 => ?_)
            subst q63
            refine fm_ald5 dX8_frame_66 ?_
            refine gi_3_3 (by omega) dX8_frame_68 fd_X8_83 ?_
            refine fm_iretI dX8_frame_71 rfl ?_
            unfold sp_frame
            first
              | (rw [if_pos (by omega)]; exact ⟨by omega, h⟩)
              | (rw [if_neg (by omega), if_pos (by omega)]; exact ⟨by omega, h⟩)
              | (rw [if_neg (by omega), if_neg (by omega)]; exact ⟨by simp only [fm_up_eq]; omega, rel_lay h (by omega) (by omega)⟩)
          · refine fm_bipush (by decide) dX8_frame_54 ?_
            refine fm_iretI dX8_frame_56 rfl ?_
            unfold sp_frame
            first
              | (rw [if_pos (by omega)]; exact ⟨by omega, h⟩)
              | (rw [if_neg (by omega), if_pos (by omega)]; exact ⟨by omega, h⟩)
              | (rw [if_neg (by omega), if_neg (by omega)]; exact ⟨by simp only [fm_up_eq]; omega, rel_lay h (by omega) (by omega)⟩)
        · refine fm_iconst dX8_frame_35 ?_
          refine fm_iretI dX8_frame_36 rfl ?_
          unfold sp_frame
          first
            | (rw [if_pos (by omega)]; exact ⟨by omega, h⟩)
            | (rw [if_neg (by omega), if_pos (by omega)]; exact ⟨by omega, h⟩)
            | (rw [if_neg (by omega), if_neg (by omega)]; exact ⟨by simp only [fm_up_eq]; omega, rel_lay h (by omega) (by omega)⟩)
set_option maxRecDepth 20000 in
set_option maxHeartbeats 4000000 in
theorem k_X8_at {ω : fm_O} {σ : fm_Mem} {μ : fm_Mem} (hi : fj μ) (h : rel μ σ) {c i t : Int} (rc : fm_R c) (ri : fm_R i) (rt : fm_R t) : fm_Met kc ω yX8_at cX8_at 5 (some .int) (fm_rm 2) [fm_r ω 0, fm_I c, fm_I i, fm_I t] σ (fm_pI fun z σ' => z = sp_at μ c i t ∧ rel μ σ') := by
  refine fm_start (by decide) rfl (Nat.le_of_ble_eq_true rfl) [some (fm_r ω 0), some (fm_I c), some (fm_I i), some (fm_I t), none] rfl (fun Γ => ?_)
  have hf := hi.fi
  have hw := rel.cw hf h
  have e0 := h.1.1
  have b0 := hf.1
  refine fm_ald0 dX8_at_0 ?_
  refine fm_ild1 dX8_at_1 ?_
  refine fm_ild2 dX8_at_2 ?_
  refine fm_cvI dX8_at_3 cl_X8_106 (k_X8_isFrame ⟨by omega, by omega⟩ ⟨by omega, by omega⟩ hw) ob_0 rfl rfl (by decide) rfl rfl (Nat.le_of_ble_eq_true rfl) (fun z3 s3 q3 => ?_)
  obtain ⟨q3, rfl⟩ := q3
  have es2 : 0 ≤ c ∧ c < 6 → σ (27 + c.toNat) 3 = μ 1 c.toNat := fun q => (h.1.2 c.toNat (by omega)).1
  refine fm_if_ne (⟨by omega, by omega⟩) 11 dX8_at_6 (by decide) (fun h6 => ?_) (fun h6 => ?_)
  · refine fm_ald0 dX8_at_11 ?_
    refine gr_7_0 dX8_at_12 fd_X8_11 ?_
    refine fm_ild1 dX8_at_15 ?_
    have hs := hf.2.1 c.toNat (by omega)
    have es := (h.1.2 c.toNat (by omega)).1
    have ew := (h.1.2 c.toNat (by omega)).2 i.toNat (by omega)
    have ei : 40 * c.toNat + i.toNat = (40 * c + i).toNat := by omega
    refine ar_1 (by omega) (by omega) dX8_at_16 ?_
    refine fm_ast4 rfl dX8_at_17 ?_
    refine fm_ild3 dX8_at_19 ?_
    rcases (show t = 0 ∨ t = 1 ∨ t = 2 ∨ (t < 0 ∨ 2 < t) by omega) with hsw | hsw | hsw | hsw
    · refine fm_tabIn (off := 28) 48 dX8_at_20 (⟨by omega, by omega⟩) (by omega) (by omega) (by rw [hsw]; rfl) (by decide) ?_
      refine fm_ald4 dX8_at_48 ?_
      refine gr_3_0 (by omega) dX8_at_50 fd_X8_109 ?_
      refine fm_ild2 dX8_at_53 ?_
      refine fm_iald dX8_at_54 (ia_rm (by omega)) (by omega) (by omega) ?_
      refine fm_iretI dX8_at_55 rfl ?_
      unfold sp_at
      first
        | (rw [if_pos (by omega)]; exact ⟨by omega, h⟩)
        | (rw [if_neg (by omega), if_pos (by omega)]; exact ⟨by rw [ew.1, ei], h⟩)
        | (rw [if_neg (by omega), if_neg (by omega), if_pos (by omega)]; exact ⟨by rw [ew.2.1, ei], h⟩)
        | (rw [if_neg (by omega), if_neg (by omega), if_neg (by omega)]; exact ⟨by rw [ew.2.2, ei], h⟩)
    · refine fm_tabIn (off := 36) 56 dX8_at_20 (⟨by omega, by omega⟩) (by omega) (by omega) (by rw [hsw]; rfl) (by decide) ?_
      refine fm_ald4 dX8_at_56 ?_
      refine gr_3_1 (by omega) dX8_at_58 fd_X8_112 ?_
      refine fm_ild2 dX8_at_61 ?_
      refine fm_iald dX8_at_62 (ia_rw (by omega)) (by omega) (by omega) ?_
      refine fm_iretI dX8_at_63 rfl ?_
      unfold sp_at
      first
        | (rw [if_pos (by omega)]; exact ⟨by omega, h⟩)
        | (rw [if_neg (by omega), if_pos (by omega)]; exact ⟨by rw [ew.1, ei], h⟩)
        | (rw [if_neg (by omega), if_neg (by omega), if_pos (by omega)]; exact ⟨by rw [ew.2.1, ei], h⟩)
        | (rw [if_neg (by omega), if_neg (by omega), if_neg (by omega)]; exact ⟨by rw [ew.2.2, ei], h⟩)
    · refine fm_tabIn (off := 44) 64 dX8_at_20 (⟨by omega, by omega⟩) (by omega) (by omega) (by rw [hsw]; rfl) (by decide) ?_
      refine fm_ald4 dX8_at_64 ?_
      refine gr_3_2 (by omega) dX8_at_66 fd_X8_115 ?_
      refine fm_ild2 dX8_at_69 ?_
      refine fm_iald dX8_at_70 (ia_rc (by omega)) (by omega) (by omega) ?_
      refine fm_iretI dX8_at_71 rfl ?_
      unfold sp_at
      first
        | (rw [if_pos (by omega)]; exact ⟨by omega, h⟩)
        | (rw [if_neg (by omega), if_pos (by omega)]; exact ⟨by rw [ew.1, ei], h⟩)
        | (rw [if_neg (by omega), if_neg (by omega), if_pos (by omega)]; exact ⟨by rw [ew.2.1, ei], h⟩)
        | (rw [if_neg (by omega), if_neg (by omega), if_neg (by omega)]; exact ⟨by rw [ew.2.2, ei], h⟩)
    · refine fm_tabOut (⟨by omega, by omega⟩) 72 dX8_at_20 hsw (by decide) ?_
      refine fm_iconst dX8_at_72 ?_
      refine fm_iretI dX8_at_73 rfl ?_
      unfold sp_at
      first
        | (rw [if_pos (by omega)]; exact ⟨by omega, h⟩)
        | (rw [if_neg (by omega), if_pos (by omega)]; exact ⟨by rw [ew.1, ei], h⟩)
        | (rw [if_neg (by omega), if_neg (by omega), if_pos (by omega)]; exact ⟨by rw [ew.2.1, ei], h⟩)
        | (rw [if_neg (by omega), if_neg (by omega), if_neg (by omega)]; exact ⟨by rw [ew.2.2, ei], h⟩)
  · refine fm_iconst dX8_at_9 ?_
    refine fm_iretI dX8_at_10 rfl ?_
    unfold sp_at
    first
      | (rw [if_pos (by omega)]; exact ⟨by omega, h⟩)
      | (rw [if_neg (by omega), if_pos (by omega)]; exact ⟨by rw [ew.1, ei], h⟩)
      | (rw [if_neg (by omega), if_neg (by omega), if_pos (by omega)]; exact ⟨by rw [ew.2.1, ei], h⟩)
      | (rw [if_neg (by omega), if_neg (by omega), if_neg (by omega)]; exact ⟨by rw [ew.2.2, ei], h⟩)
set_option maxRecDepth 20000 in
set_option maxHeartbeats 4000000 in
theorem k_X8_wear {ω : fm_O} {σ : fm_Mem} {μ : fm_Mem} (hi : fj μ) (h : rel μ σ) {c i v : Int} (rc : fm_R c) (ri : fm_R i) (rv : fm_R v) : fm_Met kc ω yX8_wear cX8_wear 5 (some .int) (fm_rm 5) [fm_r ω 0, fm_I c, fm_I i, fm_I v] σ (fm_pI fun z σ' => z = (sp_wear μ c i v).1 ∧ rel (sp_wear μ c i v).2 σ') := by
  refine fm_start (by decide) rfl (Nat.le_of_ble_eq_true rfl) [some (fm_r ω 0), some (fm_I c), some (fm_I i), some (fm_I v), none] rfl (fun Γ => ?_)
  have hf := hi.fi
  have hw := rel.cw hf h
  have e0 := h.1.1
  have b0 := hf.1
  refine fm_ald0 dX8_wear_0 ?_
  refine fm_ild1 dX8_wear_1 ?_
  refine fm_ild2 dX8_wear_2 ?_
  refine fm_cvI dX8_wear_3 cl_X8_106 (k_X8_isFrame ⟨by omega, by omega⟩ ⟨by omega, by omega⟩ hw) ob_0 rfl rfl (by decide) rfl rfl (Nat.le_of_ble_eq_true rfl) (fun z3 s3 q3 => ?_)
  obtain ⟨q3, rfl⟩ := q3
  have es2 : 0 ≤ c ∧ c < 6 → σ (27 + c.toNat) 3 = μ 1 c.toNat := fun q => (h.1.2 c.toNat (by omega)).1
  refine fm_if_eq (⟨by omega, by omega⟩) 18 dX8_wear_6 (by decide) (fun h6 => ?_) (fun h6 => ?_)
  · refine fm_iconst dX8_wear_18 ?_
    refine fm_iretI dX8_wear_19 rfl ?_
    unfold sp_wear
    first
      | (rw [if_pos (by omega)]; exact ⟨by omega, h⟩)
      | (rw [if_neg (by omega)]; exact ⟨by rw [ew.2.1, ei], rel_kp h (by omega) (by omega) (by omega)⟩)
  · refine fm_ild3 dX8_wear_9 ?_
    refine fm_bipush (by decide) dX8_wear_10 ?_
    refine fm_csI dX8_wear_12 cl_X8_72 (k_X8_isWithin ⟨by omega, by omega⟩ ⟨by omega, by omega⟩) rfl rfl (by decide) rfl rfl (Nat.le_of_ble_eq_true rfl) (fun z12 s12 q12 => ?_)
    obtain ⟨q12, rfl⟩ := q12
    refine fm_if_ne (⟨by omega, by omega⟩) 20 dX8_wear_15 (by decide) (fun h15 => ?_) (fun h15 => ?_)
    · refine fm_ald0 dX8_wear_20 ?_
      refine gr_7_0 dX8_wear_21 fd_X8_11 ?_
      refine fm_ild1 dX8_wear_24 ?_
      have hs := hf.2.1 c.toNat (by omega)
      have es := (h.1.2 c.toNat (by omega)).1
      have ew := (h.1.2 c.toNat (by omega)).2 i.toNat (by omega)
      have ei : 40 * c.toNat + i.toNat = (40 * c + i).toNat := by omega
      have et := h.2.2.2.2.2.1
      have bt := hf.2.2.2.2.2.2.2.2.2.2.2.2.2.1
      refine ar_1 (by omega) (by omega) dX8_wear_25 ?_
      refine gr_3_1 (by omega) dX8_wear_26 fd_X8_112 ?_
      refine fm_ild2 dX8_wear_29 ?_
      refine fm_iald dX8_wear_30 (ia_rw (by omega)) (by omega) (by omega) ?_
      refine fm_ist4 rfl dX8_wear_31 ?_
      refine fm_ald0 dX8_wear_33 ?_
      refine fm_ild1 dX8_wear_34 ?_
      refine fm_ild2 dX8_wear_35 ?_
      refine fm_ild3 dX8_wear_36 ?_
      refine fm_cvN dX8_wear_37 cl_X8_118 (k_X8_changeWear (by omega) (by omega) (by omega) (by omega)) ob_0 rfl rfl (by decide) rfl rfl (Nat.le_of_ble_eq_true rfl) (fun s37 q37 => ?_)
      subst q37
      refine fm_ild4 dX8_wear_40 ?_
      refine fm_iretI dX8_wear_42 rfl ?_
      unfold sp_wear
      first
        | (rw [if_pos (by omega)]; exact ⟨by omega, h⟩)
        | (rw [if_neg (by omega)]; exact ⟨by rw [ew.2.1, ei], rel_kp h (by omega) (by omega) (by omega)⟩)
    · refine fm_iconst dX8_wear_18 ?_
      refine fm_iretI dX8_wear_19 rfl ?_
      unfold sp_wear
      first
        | (rw [if_pos (by omega)]; exact ⟨by omega, h⟩)
        | (rw [if_neg (by omega)]; exact ⟨by rw [ew.2.1, ei], rel_kp h (by omega) (by omega) (by omega)⟩)
set_option maxRecDepth 20000 in
set_option maxHeartbeats 4000000 in
theorem k_X8_place {ω : fm_O} {σ : fm_Mem} {μ : fm_Mem} (hi : fj μ) (h : rel μ σ) {m s : Int} (rm : fm_R m) (rs : fm_R s) : fm_Met kc ω yX8_place cX8_place 3 (some .int) (fm_rm 1) [fm_r ω 0, fm_I m, fm_I s] σ (fm_pI fun z σ' => z = (sp_place μ m s).1 ∧ rel (sp_place μ m s).2 σ') := by
  refine fm_start (by decide) rfl (Nat.le_of_ble_eq_true rfl) [some (fm_r ω 0), some (fm_I m), some (fm_I s)] rfl (fun Γ => ?_)
  have hf := hi.fi
  have hw := rel.cw hf h
  have e0 := h.1.1
  have b0 := hf.1
  have e6 := h.2.1.1
  have b6 := hf.2.1 6 (by omega)
  refine fm_ild1 dX8_place_0 ?_
  refine fm_bipush (by decide) dX8_place_1 ?_
  refine fm_csI dX8_place_3 cl_X8_72 (k_X8_isWithin ⟨by omega, by omega⟩ ⟨by omega, by omega⟩) rfl rfl (by decide) rfl rfl (Nat.le_of_ble_eq_true rfl) (fun z3 s3 q3 => ?_)
  obtain ⟨q3, rfl⟩ := q3
  refine fm_if_eq (⟨by omega, by omega⟩) 17 dX8_place_6 (by decide) (fun h6 => ?_) (fun h6 => ?_)
  · refine fm_iconst dX8_place_17 ?_
    refine fm_iretI dX8_place_18 rfl ?_
    unfold sp_place
    first
      | (rw [if_pos (by omega)]; exact ⟨by omega, h⟩)
      | (rw [if_neg (by omega), if_pos (by omega)]; exact ⟨by omega, h⟩)
      | (rw [if_neg (by omega), if_neg (by omega)]; exact ⟨by simp only [fm_up_eq]; omega, rel_place h (by omega)⟩)
  · refine fm_ild2 dX8_place_9 ?_
    refine fm_iconst dX8_place_10 ?_
    refine fm_csI dX8_place_11 cl_X8_72 (k_X8_isWithin ⟨by omega, by omega⟩ ⟨by omega, by omega⟩) rfl rfl (by decide) rfl rfl (Nat.le_of_ble_eq_true rfl) (fun z11 s11 q11 => ?_)
    obtain ⟨q11, rfl⟩ := q11
    refine fm_if_ne (⟨by omega, by omega⟩) 19 dX8_place_14 (by decide) (fun h14 => ?_) (fun h14 => ?_)
    · refine fm_ald0 dX8_place_19 ?_
      refine gr_7_2 dX8_place_20 fd_X8_18 ?_
      refine gi_4_2 dX8_place_23 fd_X8_121 ?_
      refine fm_bipush (by decide) dX8_place_26 ?_
      refine fm_icmp_lt (⟨by omega, by omega⟩) (⟨by omega, by omega⟩) 34 dX8_place_28 (by decide) (fun h28 => ?_) (fun h28 => ?_)
      · refine fm_ald0 dX8_place_34 ?_
        refine gr_7_2 dX8_place_35 fd_X8_18 ?_
        refine fm_ild1 dX8_place_38 ?_
        refine fm_ild2 dX8_place_39 ?_
        refine fm_cvN dX8_place_40 cl_X8_122 (k_X4_append (by omega) (by omega)) ob_2 rfl rfl (by decide) rfl rfl (Nat.le_of_ble_eq_true rfl) (fun s40 q40 => ?_)
        subst q40
        refine fm_ald0 dX8_place_43 ?_
        refine gr_7_2 dX8_place_44 fd_X8_18 ?_
        refine gi_4_2 dX8_place_47 fd_X8_121 ?_
        refine fm_iretI dX8_place_50 rfl ?_
        unfold sp_place
        first
          | (rw [if_pos (by omega)]; exact ⟨by omega, h⟩)
          | (rw [if_neg (by omega), if_pos (by omega)]; exact ⟨by omega, h⟩)
          | (rw [if_neg (by omega), if_neg (by omega)]; exact ⟨by simp only [fm_up_eq]; omega, rel_place h (by omega)⟩)
      · refine fm_bipush (by decide) dX8_place_31 ?_
        refine fm_iretI dX8_place_33 rfl ?_
        unfold sp_place
        first
          | (rw [if_pos (by omega)]; exact ⟨by omega, h⟩)
          | (rw [if_neg (by omega), if_pos (by omega)]; exact ⟨by omega, h⟩)
          | (rw [if_neg (by omega), if_neg (by omega)]; exact ⟨by simp only [fm_up_eq]; omega, rel_place h (by omega)⟩)
    · refine fm_iconst dX8_place_17 ?_
      refine fm_iretI dX8_place_18 rfl ?_
      unfold sp_place
      first
        | (rw [if_pos (by omega)]; exact ⟨by omega, h⟩)
        | (rw [if_neg (by omega), if_pos (by omega)]; exact ⟨by omega, h⟩)
        | (rw [if_neg (by omega), if_neg (by omega)]; exact ⟨by simp only [fm_up_eq]; omega, rel_place h (by omega)⟩)
set_option maxRecDepth 20000 in
set_option maxHeartbeats 4000000 in
theorem k_X8_noScript {ω : fm_O} {σ : fm_Mem} {μ : fm_Mem} (hi : fj μ) (h : rel μ σ)  : fm_Met kc ω yX8_noScript cX8_noScript 2 (some .int) (fm_rm 0) [fm_r ω 0] σ (fm_pI fun z σ' => z = (sp_noScript μ).1 ∧ rel (sp_noScript μ).2 σ') := by
  refine fm_start (by decide) rfl (Nat.le_of_ble_eq_true rfl) [some (fm_r ω 0), none] rfl (fun Γ => ?_)
  have hf := hi.fi
  have hw := rel.cw hf h
  have e0 := h.1.1
  have b0 := hf.1
  refine fm_ald0 dX8_noScript_0 ?_
  refine gr_7_2 dX8_noScript_1 fd_X8_18 ?_
  refine gi_4_2 dX8_noScript_4 fd_X8_121 ?_
  try simp (disch := omega) only [fm_up_ne, fm_up_nj, fm_up_eq]
  refine fm_ist1 rfl dX8_noScript_7 ?_
  refine fm_ald0 dX8_noScript_8 ?_
  refine gr_7_2 dX8_noScript_9 fd_X8_18 ?_
  refine fm_iconst dX8_noScript_12 ?_
  refine pf_4_2 dX8_noScript_13 fd_X8_121 ?_
  refine fm_ild1 dX8_noScript_16 ?_
  exact fm_iretI dX8_noScript_17 rfl ⟨h.2.1.1, rel_noScript h⟩
set_option maxRecDepth 20000 in
set_option maxHeartbeats 4000000 in
theorem k_X8_note {ω : fm_O} {σ : fm_Mem} {μ : fm_Mem} (hi : fj μ) (h : rel μ σ) {c a b t : Int} (rc : fm_R c) (ra : fm_R a) (rb : fm_R b) (rt : fm_R t) : fm_Met kc ω yX8_note cX8_note 5 (some .int) (fm_rm 2) [fm_r ω 0, fm_I c, fm_I a, fm_I b, fm_I t] σ (fm_pI fun z σ' => z = (sp_note μ c a b t).1 ∧ rel (sp_note μ c a b t).2 σ') := by
  refine fm_start (by decide) rfl (Nat.le_of_ble_eq_true rfl) [some (fm_r ω 0), some (fm_I c), some (fm_I a), some (fm_I b), some (fm_I t)] rfl (fun Γ => ?_)
  have hf := hi.fi
  have hw := rel.cw hf h
  have e0 := h.1.1
  have b0 := hf.1
  have e7 := h.2.2.2.1.1
  have b7 := hf.2.2.2.2.2.2.2.2.2.1
  have es2 : 0 ≤ c ∧ c < 6 → σ (27 + c.toNat) 3 = μ 1 c.toNat := fun q => (h.1.2 c.toNat (by omega)).1
  refine fm_ald0 dX8_note_0 ?_
  refine fm_ild1 dX8_note_1 ?_
  refine fm_ild2 dX8_note_2 ?_
  refine fm_cvI dX8_note_3 cl_X8_106 (k_X8_isFrame ⟨by omega, by omega⟩ ⟨by omega, by omega⟩ hw) ob_0 rfl rfl (by decide) rfl rfl (Nat.le_of_ble_eq_true rfl) (fun z3 s3 q3 => ?_)
  obtain ⟨q3, rfl⟩ := q3
  refine fm_if_eq (⟨by omega, by omega⟩) 36 dX8_note_6 (by decide) (fun h6 => ?_) (fun h6 => ?_)
  · refine fm_iconst dX8_note_36 ?_
    refine fm_iretI dX8_note_37 rfl ?_
    unfold sp_note
    first
      | (rw [if_pos (by omega)]; exact ⟨by omega, h⟩)
      | (rw [if_neg (by omega), if_pos (by omega)]; exact ⟨by omega, h⟩)
      | (rw [if_neg (by omega), if_neg (by omega)]; exact ⟨by simp only [fm_up_eq]; omega, rel_note h (by omega)⟩)
  · refine fm_ald0 dX8_note_9 ?_
    refine fm_ild1 dX8_note_10 ?_
    refine fm_ild3 dX8_note_11 ?_
    refine fm_cvI dX8_note_12 cl_X8_106 (k_X8_isFrame ⟨by omega, by omega⟩ ⟨by omega, by omega⟩ hw) ob_0 rfl rfl (by decide) rfl rfl (Nat.le_of_ble_eq_true rfl) (fun z12 s12 q12 => ?_)
    obtain ⟨q12, rfl⟩ := q12
    refine fm_if_eq (⟨by omega, by omega⟩) 36 dX8_note_15 (by decide) (fun h15 => ?_) (fun h15 => ?_)
    · refine fm_iconst dX8_note_36 ?_
      refine fm_iretI dX8_note_37 rfl ?_
      unfold sp_note
      first
        | (rw [if_pos (by omega)]; exact ⟨by omega, h⟩)
        | (rw [if_neg (by omega), if_pos (by omega)]; exact ⟨by omega, h⟩)
        | (rw [if_neg (by omega), if_neg (by omega)]; exact ⟨by simp only [fm_up_eq]; omega, rel_note h (by omega)⟩)
    · refine fm_ild2 dX8_note_18 ?_
      refine fm_ild3 dX8_note_19 ?_
      refine fm_icmp_gt (⟨by omega, by omega⟩) (⟨by omega, by omega⟩) 36 dX8_note_20 (by decide) (fun h20 => ?_) (fun h20 => ?_)
      · refine fm_iconst dX8_note_36 ?_
        refine fm_iretI dX8_note_37 rfl ?_
        unfold sp_note
        first
          | (rw [if_pos (by omega)]; exact ⟨by omega, h⟩)
          | (rw [if_neg (by omega), if_pos (by omega)]; exact ⟨by omega, h⟩)
          | (rw [if_neg (by omega), if_neg (by omega)]; exact ⟨by simp only [fm_up_eq]; omega, rel_note h (by omega)⟩)
      · refine fm_ild4 dX8_note_23 ?_
        refine fm_iconst dX8_note_25 ?_
        refine fm_icmp_lt (⟨by omega, by omega⟩) (⟨by omega, by omega⟩) 36 dX8_note_26 (by decide) (fun h26 => ?_) (fun h26 => ?_)
        · refine fm_iconst dX8_note_36 ?_
          refine fm_iretI dX8_note_37 rfl ?_
          unfold sp_note
          first
            | (rw [if_pos (by omega)]; exact ⟨by omega, h⟩)
            | (rw [if_neg (by omega), if_pos (by omega)]; exact ⟨by omega, h⟩)
            | (rw [if_neg (by omega), if_neg (by omega)]; exact ⟨by simp only [fm_up_eq]; omega, rel_note h (by omega)⟩)
        · refine fm_ild4 dX8_note_29 ?_
          refine fm_bipush (by decide) dX8_note_31 ?_
          refine fm_icmp_le (⟨by omega, by omega⟩) (⟨by omega, by omega⟩) 38 dX8_note_33 (by decide) (fun h33 => ?_) (fun h33 => ?_)
          · refine fm_ald0 dX8_note_38 ?_
            refine gr_7_6 dX8_note_39 fd_X8_36 ?_
            refine gi_2_4 dX8_note_42 fd_X8_187 ?_
            refine fm_bipush (by decide) dX8_note_45 ?_
            refine fm_icmp_lt (⟨by omega, by omega⟩) (⟨by omega, by omega⟩) 53 dX8_note_47 (by decide) (fun h47 => ?_) (fun h47 => ?_)
            · refine fm_ald0 dX8_note_53 ?_
              refine gr_7_6 dX8_note_54 fd_X8_36 ?_
              refine fm_ild1 dX8_note_57 ?_
              refine fm_ild2 dX8_note_58 ?_
              refine fm_ild3 dX8_note_59 ?_
              refine fm_ild4 dX8_note_60 ?_
              refine fm_cvN dX8_note_62 cl_X8_188 (k_X2_append (by omega) (by omega)) ob_13 rfl rfl (by decide) rfl rfl (Nat.le_of_ble_eq_true rfl) (fun s62 q62 => ?_)
              subst q62
              refine fm_ald0 dX8_note_65 ?_
              refine gr_7_6 dX8_note_66 fd_X8_36 ?_
              refine gi_2_4 dX8_note_69 fd_X8_187 ?_
              refine fm_iretI dX8_note_72 rfl ?_
              unfold sp_note
              first
                | (rw [if_pos (by omega)]; exact ⟨by omega, h⟩)
                | (rw [if_neg (by omega), if_pos (by omega)]; exact ⟨by omega, h⟩)
                | (rw [if_neg (by omega), if_neg (by omega)]; exact ⟨by simp only [fm_up_eq]; omega, rel_note h (by omega)⟩)
            · refine fm_bipush (by decide) dX8_note_50 ?_
              refine fm_iretI dX8_note_52 rfl ?_
              unfold sp_note
              first
                | (rw [if_pos (by omega)]; exact ⟨by omega, h⟩)
                | (rw [if_neg (by omega), if_pos (by omega)]; exact ⟨by omega, h⟩)
                | (rw [if_neg (by omega), if_neg (by omega)]; exact ⟨by simp only [fm_up_eq]; omega, rel_note h (by omega)⟩)
          · refine fm_iconst dX8_note_36 ?_
            refine fm_iretI dX8_note_37 rfl ?_
            unfold sp_note
            first
              | (rw [if_pos (by omega)]; exact ⟨by omega, h⟩)
              | (rw [if_neg (by omega), if_pos (by omega)]; exact ⟨by omega, h⟩)
              | (rw [if_neg (by omega), if_neg (by omega)]; exact ⟨by simp only [fm_up_eq]; omega, rel_note h (by omega)⟩)
set_option maxRecDepth 20000 in
set_option maxHeartbeats 4000000 in
theorem k_X8_cue {ω : fm_O} {σ : fm_Mem} {μ : fm_Mem} (hi : fj μ) (h : rel μ σ) {a b v : Int} (ra : fm_R a) (rb : fm_R b) (rv : fm_R v) : fm_Met kc ω yX8_cue cX8_cue 4 (some .int) (fm_rm 1) [fm_r ω 0, fm_I a, fm_I b, fm_I v] σ (fm_pI fun z σ' => z = (sp_cue μ a b v).1 ∧ rel (sp_cue μ a b v).2 σ') := by
  refine fm_start (by decide) rfl (Nat.le_of_ble_eq_true rfl) [some (fm_r ω 0), some (fm_I a), some (fm_I b), some (fm_I v)] rfl (fun Γ => ?_)
  have hf := hi.fi
  have hw := rel.cw hf h
  have e0 := h.1.1
  have b0 := hf.1
  have e7 := h.2.2.2.2.1.1
  have b7 := hf.2.2.2.2.2.2.2.2.2.2.2.1
  refine fm_ild1 dX8_cue_0 ?_
  refine fm_iconst dX8_cue_1 ?_
  refine fm_csI dX8_cue_2 cl_X8_72 (k_X8_isWithin ⟨by omega, by omega⟩ ⟨by omega, by omega⟩) rfl rfl (by decide) rfl rfl (Nat.le_of_ble_eq_true rfl) (fun z2 s2 q2 => ?_)
  obtain ⟨q2, rfl⟩ := q2
  refine fm_if_eq (⟨by omega, by omega⟩) 32 dX8_cue_5 (by decide) (fun h5 => ?_) (fun h5 => ?_)
  · refine fm_iconst dX8_cue_32 ?_
    refine fm_iretI dX8_cue_33 rfl ?_
    unfold sp_cue
    first
      | (rw [if_pos (by omega)]; exact ⟨by omega, h⟩)
      | (rw [if_neg (by omega), if_pos (by omega)]; exact ⟨by omega, h⟩)
      | (rw [if_neg (by omega), if_neg (by omega)]; exact ⟨by simp only [fm_up_eq]; omega, rel_cue h (by omega) (by omega) (by omega)⟩)
  · refine fm_ild2 dX8_cue_8 ?_
    refine fm_iconst dX8_cue_9 ?_
    refine fm_csI dX8_cue_10 cl_X8_72 (k_X8_isWithin ⟨by omega, by omega⟩ ⟨by omega, by omega⟩) rfl rfl (by decide) rfl rfl (Nat.le_of_ble_eq_true rfl) (fun z10 s10 q10 => ?_)
    obtain ⟨q10, rfl⟩ := q10
    refine fm_if_eq (⟨by omega, by omega⟩) 32 dX8_cue_13 (by decide) (fun h13 => ?_) (fun h13 => ?_)
    · refine fm_iconst dX8_cue_32 ?_
      refine fm_iretI dX8_cue_33 rfl ?_
      unfold sp_cue
      first
        | (rw [if_pos (by omega)]; exact ⟨by omega, h⟩)
        | (rw [if_neg (by omega), if_pos (by omega)]; exact ⟨by omega, h⟩)
        | (rw [if_neg (by omega), if_neg (by omega)]; exact ⟨by simp only [fm_up_eq]; omega, rel_cue h (by omega) (by omega) (by omega)⟩)
    · refine fm_ild1 dX8_cue_16 ?_
      refine fm_ild2 dX8_cue_17 ?_
      refine fm_icmp_eq (⟨by omega, by omega⟩) (⟨by omega, by omega⟩) 32 dX8_cue_18 (by decide) (fun h18 => ?_) (fun h18 => ?_)
      · refine fm_iconst dX8_cue_32 ?_
        refine fm_iretI dX8_cue_33 rfl ?_
        unfold sp_cue
        first
          | (rw [if_pos (by omega)]; exact ⟨by omega, h⟩)
          | (rw [if_neg (by omega), if_pos (by omega)]; exact ⟨by omega, h⟩)
          | (rw [if_neg (by omega), if_neg (by omega)]; exact ⟨by simp only [fm_up_eq]; omega, rel_cue h (by omega) (by omega) (by omega)⟩)
      · refine fm_ild3 dX8_cue_21 ?_
        refine fm_iconst dX8_cue_22 ?_
        refine fm_icmp_lt (⟨by omega, by omega⟩) (⟨by omega, by omega⟩) 32 dX8_cue_23 (by decide) (fun h23 => ?_) (fun h23 => ?_)
        · refine fm_iconst dX8_cue_32 ?_
          refine fm_iretI dX8_cue_33 rfl ?_
          unfold sp_cue
          first
            | (rw [if_pos (by omega)]; exact ⟨by omega, h⟩)
            | (rw [if_neg (by omega), if_pos (by omega)]; exact ⟨by omega, h⟩)
            | (rw [if_neg (by omega), if_neg (by omega)]; exact ⟨by simp only [fm_up_eq]; omega, rel_cue h (by omega) (by omega) (by omega)⟩)
        · refine fm_ild3 dX8_cue_26 ?_
          refine fm_bipush (by decide) dX8_cue_27 ?_
          refine fm_icmp_le (⟨by omega, by omega⟩) (⟨by omega, by omega⟩) 34 dX8_cue_29 (by decide) (fun h29 => ?_) (fun h29 => ?_)
          · refine fm_ald0 dX8_cue_34 ?_
            refine gr_7_7 dX8_cue_35 fd_X8_43 ?_
            refine gi_0_4 dX8_cue_38 fd_X8_197 ?_
            refine fm_bipush (by decide) dX8_cue_41 ?_
            refine fm_icmp_lt (⟨by omega, by omega⟩) (⟨by omega, by omega⟩) 49 dX8_cue_43 (by decide) (fun h43 => ?_) (fun h43 => ?_)
            · refine fm_ald0 dX8_cue_49 ?_
              refine gr_7_7 dX8_cue_50 fd_X8_43 ?_
              refine fm_ild1 dX8_cue_53 ?_
              refine fm_ild2 dX8_cue_54 ?_
              refine fm_ild3 dX8_cue_55 ?_
              refine fm_cvN dX8_cue_56 cl_X8_198 (k_X0_append (by omega) (by omega)) ob_18 rfl rfl (by decide) rfl rfl (Nat.le_of_ble_eq_true rfl) (fun s56 q56 => ?_)
              subst q56
              refine fm_ald0 dX8_cue_59 ?_
              refine gr_7_7 dX8_cue_60 fd_X8_43 ?_
              refine gi_0_4 dX8_cue_63 fd_X8_197 ?_
              refine fm_iretI dX8_cue_66 rfl ?_
              unfold sp_cue
              first
                | (rw [if_pos (by omega)]; exact ⟨by omega, h⟩)
                | (rw [if_neg (by omega), if_pos (by omega)]; exact ⟨by omega, h⟩)
                | (rw [if_neg (by omega), if_neg (by omega)]; exact ⟨by simp only [fm_up_eq]; omega, rel_cue h (by omega) (by omega) (by omega)⟩)
            · refine fm_bipush (by decide) dX8_cue_46 ?_
              refine fm_iretI dX8_cue_48 rfl ?_
              unfold sp_cue
              first
                | (rw [if_pos (by omega)]; exact ⟨by omega, h⟩)
                | (rw [if_neg (by omega), if_pos (by omega)]; exact ⟨by omega, h⟩)
                | (rw [if_neg (by omega), if_neg (by omega)]; exact ⟨by simp only [fm_up_eq]; omega, rel_cue h (by omega) (by omega) (by omega)⟩)
          · refine fm_iconst dX8_cue_32 ?_
            refine fm_iretI dX8_cue_33 rfl ?_
            unfold sp_cue
            first
              | (rw [if_pos (by omega)]; exact ⟨by omega, h⟩)
              | (rw [if_neg (by omega), if_pos (by omega)]; exact ⟨by omega, h⟩)
              | (rw [if_neg (by omega), if_neg (by omega)]; exact ⟨by simp only [fm_up_eq]; omega, rel_cue h (by omega) (by omega) (by omega)⟩)
set_option maxRecDepth 20000 in
set_option maxHeartbeats 4000000 in
theorem k_X8_noCues {ω : fm_O} {σ : fm_Mem} {μ : fm_Mem} (hi : fj μ) (h : rel μ σ)  : fm_Met kc ω yX8_noCues cX8_noCues 2 (some .int) (fm_rm 2) [fm_r ω 0] σ (fm_pI fun z σ' => z = (sp_noCues μ).1 ∧ rel (sp_noCues μ).2 σ') := by
  refine fm_start (by decide) rfl (Nat.le_of_ble_eq_true rfl) [some (fm_r ω 0), none] rfl (fun Γ => ?_)
  have hf := hi.fi
  have hw := rel.cw hf h
  have e0 := h.1.1
  have b0 := hf.1
  refine fm_ald0 dX8_noCues_0 ?_
  refine gr_7_7 dX8_noCues_1 fd_X8_43 ?_
  refine gi_0_4 dX8_noCues_4 fd_X8_197 ?_
  refine fm_ist1 rfl dX8_noCues_7 ?_
  refine fm_ald0 dX8_noCues_8 ?_
  refine gr_7_7 dX8_noCues_9 fd_X8_43 ?_
  refine fm_cvN dX8_noCues_12 cl_X8_199 (k_X0_clear) ob_18 rfl rfl (by decide) rfl rfl (Nat.le_of_ble_eq_true rfl) (fun s12 q12 => ?_)
  subst q12
  refine fm_ild1 dX8_noCues_15 ?_
  exact fm_iretI dX8_noCues_16 rfl ⟨h.2.2.2.2.1.1, rel_noCues h⟩
set_option maxRecDepth 20000 in
set_option maxHeartbeats 4000000 in
theorem k_X8_undo {ω : fm_O} {σ : fm_Mem} {μ : fm_Mem} (hi : fj μ) (h : rel μ σ)  : fm_Met kc ω yX8_undo cX8_undo 3 (some .int) (fm_rm 0) [fm_r ω 0] σ (fm_pI fun z σ' => z = (sp_undo μ).1 ∧ rel (sp_undo μ).2 σ') := by
  refine fm_start (by decide) rfl (Nat.le_of_ble_eq_true rfl) [some (fm_r ω 0), none, none] rfl (fun Γ => ?_)
  have hf := hi.fi
  have hw := rel.cw hf h
  have e0 := h.1.1
  have b0 := hf.1
  have et := h.2.2.2.2.2.1
  have bt := hf.2.2.2.2.2.2.2.2.2.2.2.2.2.1
  refine fm_ald0 dX8_undo_0 ?_
  refine gr_7_8 dX8_undo_1 fd_X8_50 ?_
  refine gi_6_3 dX8_undo_4 fd_X8_214 ?_
  try simp (disch := omega) only [fm_up_ne, fm_up_nj, fm_up_eq]
  refine fm_if_ne (⟨by omega, by omega⟩) 13 dX8_undo_7 (by decide) (fun h7 => ?_) (fun h7 => ?_)
  · obtain ⟨t1, t2, t3, t4⟩ := h.2.2.2.2.2.2 (μ 0 16 - 1).toNat (by omega)
    refine fm_ald0 dX8_undo_13 ?_
    refine gr_7_8 dX8_undo_14 fd_X8_50 ?_
    refine fm_dupR dX8_undo_17 ?_
    refine gi_6_3 dX8_undo_18 fd_X8_214 ?_
    try simp (disch := omega) only [fm_up_ne, fm_up_nj, fm_up_eq]
    refine fm_iconst dX8_undo_21 ?_
    refine fm_isub dX8_undo_22 ?_
    refine pf_6_3 dX8_undo_23 fd_X8_214 ?_
    refine fm_ald0 dX8_undo_26 ?_
    refine gr_7_8 dX8_undo_27 fd_X8_50 ?_
    refine gr_6_0 dX8_undo_30 fd_X8_215 ?_
    refine fm_ald0 dX8_undo_33 ?_
    refine gr_7_8 dX8_undo_34 fd_X8_50 ?_
    refine gi_6_3 dX8_undo_37 fd_X8_214 ?_
    try simp (disch := omega) only [fm_up_ne, fm_up_nj, fm_up_eq]
    refine fm_iald dX8_undo_40 ia_24 (by omega) (by omega) ?_
    try simp (disch := omega) only [fm_up_ne, fm_up_nj, fm_up_eq]
    rw [et]
    refine fm_ist1 rfl dX8_undo_41 ?_
    refine fm_ald0 dX8_undo_42 ?_
    refine gr_7_8 dX8_undo_43 fd_X8_50 ?_
    refine gr_6_1 dX8_undo_46 fd_X8_217 ?_
    refine fm_ald0 dX8_undo_49 ?_
    refine gr_7_8 dX8_undo_50 fd_X8_50 ?_
    refine gi_6_3 dX8_undo_53 fd_X8_214 ?_
    try simp (disch := omega) only [fm_up_ne, fm_up_nj, fm_up_eq]
    refine fm_iald dX8_undo_56 ia_25 (by omega) (by omega) ?_
    try simp (disch := omega) only [fm_up_ne, fm_up_nj, fm_up_eq]
    try rw [et]
    refine fm_ist2 rfl dX8_undo_57 ?_
    refine fm_ald0 dX8_undo_58 ?_
    refine gr_7_0 dX8_undo_59 fd_X8_11 ?_
    refine fm_ild1 dX8_undo_62 ?_
    refine ar_1 (by omega) (by omega) dX8_undo_63 ?_
    refine gr_3_1 (by omega) dX8_undo_64 fd_X8_112 ?_
    refine fm_ild2 dX8_undo_67 ?_
    refine fm_ald0 dX8_undo_68 ?_
    refine gr_7_8 dX8_undo_69 fd_X8_50 ?_
    refine gr_6_2 dX8_undo_72 fd_X8_220 ?_
    refine fm_ald0 dX8_undo_75 ?_
    refine gr_7_8 dX8_undo_76 fd_X8_50 ?_
    refine gi_6_3 dX8_undo_79 fd_X8_214 ?_
    try simp (disch := omega) only [fm_up_ne, fm_up_nj, fm_up_eq]
    refine fm_iald dX8_undo_82 ia_26 (by omega) (by omega) ?_
    try simp (disch := omega) only [fm_up_ne, fm_up_nj, fm_up_eq]
    try rw [et]
    refine fm_iast dX8_undo_83 (ia_rw (by omega)) (by omega) (by omega) ?_
    refine fm_ild1 dX8_undo_84 ?_
    refine fm_bipush (by decide) dX8_undo_85 ?_
    refine fm_imul dX8_undo_87 ?_
    refine fm_ild2 dX8_undo_88 ?_
    refine fm_iadd dX8_undo_89 ?_
    refine fm_iretI dX8_undo_90 rfl ?_
    unfold sp_undo
    first
      | (rw [if_pos (by omega)]; exact ⟨by omega, h⟩)
      | (rw [if_neg (by omega)]; exact ⟨by omega, by (try rw [et]); exact rel_undo h (by omega)⟩)
  · refine fm_bipush (by decide) dX8_undo_10 ?_
    refine fm_iretI dX8_undo_12 rfl ?_
    unfold sp_undo
    first
      | (rw [if_pos (by omega)]; exact ⟨by omega, h⟩)
      | (rw [if_neg (by omega)]; exact ⟨by omega, by (try rw [et]); exact rel_undo h (by omega)⟩)
set_option maxRecDepth 20000 in
set_option maxHeartbeats 4000000 in
theorem k_X8_count {ω : fm_O} {σ : fm_Mem} {μ : fm_Mem} (hi : fj μ) (h : rel μ σ) {t : Int} (rt : fm_R t) : fm_Met kc ω yX8_count cX8_count 2 (some .int) (fm_rm 0) [fm_r ω 0, fm_I t] σ (fm_pI fun z σ' => z = sp_count μ t ∧ rel μ σ') := by
  refine fm_start (by decide) rfl (Nat.le_of_ble_eq_true rfl) [some (fm_r ω 0), some (fm_I t)] rfl (fun Γ => ?_)
  have hf := hi.fi
  have hw := rel.cw hf h
  have e0 := h.1.1
  have b0 := hf.1
  refine fm_ild1 dX8_count_0 ?_
  rcases (show t = 0 ∨ t = 1 ∨ t = 2 ∨ t = 3 ∨ t = 4 ∨ (t < 0 ∨ 4 < t) by omega) with hsw | hsw | hsw | hsw | hsw | hsw
  · refine fm_tabIn (off := 35) 36 dX8_count_1 (⟨by omega, by omega⟩) (by omega) (by omega) (by rw [hsw]; rfl) (by decide) ?_
    refine fm_ald0 dX8_count_36 ?_
    refine gi_7_1 dX8_count_37 fd_X8_64 ?_
    refine fm_iretI dX8_count_40 rfl ?_
    unfold sp_count
    first
      | (rw [if_pos (by omega)]; exact ⟨by first | exact h.1.1 | exact h.2.1.1 | exact h.2.2.2.1.1 | exact h.2.2.2.2.1.1 | exact h.2.2.2.2.2.1, h⟩)
      | (rw [if_neg (by omega), if_pos (by omega)]; exact ⟨by first | exact h.1.1 | exact h.2.1.1 | exact h.2.2.2.1.1 | exact h.2.2.2.2.1.1 | exact h.2.2.2.2.2.1, h⟩)
      | (rw [if_neg (by omega), if_neg (by omega), if_pos (by omega)]; exact ⟨by first | exact h.1.1 | exact h.2.1.1 | exact h.2.2.2.1.1 | exact h.2.2.2.2.1.1 | exact h.2.2.2.2.2.1, h⟩)
      | (rw [if_neg (by omega), if_neg (by omega), if_neg (by omega), if_pos (by omega)]; exact ⟨by first | exact h.1.1 | exact h.2.1.1 | exact h.2.2.2.1.1 | exact h.2.2.2.2.1.1 | exact h.2.2.2.2.2.1, h⟩)
      | (rw [if_neg (by omega), if_neg (by omega), if_neg (by omega), if_neg (by omega), if_pos (by omega)]; exact ⟨by first | exact h.1.1 | exact h.2.1.1 | exact h.2.2.2.1.1 | exact h.2.2.2.2.1.1 | exact h.2.2.2.2.2.1, h⟩)
      | (rw [if_neg (by omega), if_neg (by omega), if_neg (by omega), if_neg (by omega), if_neg (by omega)]; exact ⟨rfl, h⟩)
  · refine fm_tabIn (off := 40) 41 dX8_count_1 (⟨by omega, by omega⟩) (by omega) (by omega) (by rw [hsw]; rfl) (by decide) ?_
    refine fm_ald0 dX8_count_41 ?_
    refine gr_7_2 dX8_count_42 fd_X8_18 ?_
    refine gi_4_2 dX8_count_45 fd_X8_121 ?_
    refine fm_iretI dX8_count_48 rfl ?_
    unfold sp_count
    first
      | (rw [if_pos (by omega)]; exact ⟨by first | exact h.1.1 | exact h.2.1.1 | exact h.2.2.2.1.1 | exact h.2.2.2.2.1.1 | exact h.2.2.2.2.2.1, h⟩)
      | (rw [if_neg (by omega), if_pos (by omega)]; exact ⟨by first | exact h.1.1 | exact h.2.1.1 | exact h.2.2.2.1.1 | exact h.2.2.2.2.1.1 | exact h.2.2.2.2.2.1, h⟩)
      | (rw [if_neg (by omega), if_neg (by omega), if_pos (by omega)]; exact ⟨by first | exact h.1.1 | exact h.2.1.1 | exact h.2.2.2.1.1 | exact h.2.2.2.2.1.1 | exact h.2.2.2.2.2.1, h⟩)
      | (rw [if_neg (by omega), if_neg (by omega), if_neg (by omega), if_pos (by omega)]; exact ⟨by first | exact h.1.1 | exact h.2.1.1 | exact h.2.2.2.1.1 | exact h.2.2.2.2.1.1 | exact h.2.2.2.2.2.1, h⟩)
      | (rw [if_neg (by omega), if_neg (by omega), if_neg (by omega), if_neg (by omega), if_pos (by omega)]; exact ⟨by first | exact h.1.1 | exact h.2.1.1 | exact h.2.2.2.1.1 | exact h.2.2.2.2.1.1 | exact h.2.2.2.2.2.1, h⟩)
      | (rw [if_neg (by omega), if_neg (by omega), if_neg (by omega), if_neg (by omega), if_neg (by omega)]; exact ⟨rfl, h⟩)
  · refine fm_tabIn (off := 48) 49 dX8_count_1 (⟨by omega, by omega⟩) (by omega) (by omega) (by rw [hsw]; rfl) (by decide) ?_
    refine fm_ald0 dX8_count_49 ?_
    refine gr_7_6 dX8_count_50 fd_X8_36 ?_
    refine gi_2_4 dX8_count_53 fd_X8_187 ?_
    refine fm_iretI dX8_count_56 rfl ?_
    unfold sp_count
    first
      | (rw [if_pos (by omega)]; exact ⟨by first | exact h.1.1 | exact h.2.1.1 | exact h.2.2.2.1.1 | exact h.2.2.2.2.1.1 | exact h.2.2.2.2.2.1, h⟩)
      | (rw [if_neg (by omega), if_pos (by omega)]; exact ⟨by first | exact h.1.1 | exact h.2.1.1 | exact h.2.2.2.1.1 | exact h.2.2.2.2.1.1 | exact h.2.2.2.2.2.1, h⟩)
      | (rw [if_neg (by omega), if_neg (by omega), if_pos (by omega)]; exact ⟨by first | exact h.1.1 | exact h.2.1.1 | exact h.2.2.2.1.1 | exact h.2.2.2.2.1.1 | exact h.2.2.2.2.2.1, h⟩)
      | (rw [if_neg (by omega), if_neg (by omega), if_neg (by omega), if_pos (by omega)]; exact ⟨by first | exact h.1.1 | exact h.2.1.1 | exact h.2.2.2.1.1 | exact h.2.2.2.2.1.1 | exact h.2.2.2.2.2.1, h⟩)
      | (rw [if_neg (by omega), if_neg (by omega), if_neg (by omega), if_neg (by omega), if_pos (by omega)]; exact ⟨by first | exact h.1.1 | exact h.2.1.1 | exact h.2.2.2.1.1 | exact h.2.2.2.2.1.1 | exact h.2.2.2.2.2.1, h⟩)
      | (rw [if_neg (by omega), if_neg (by omega), if_neg (by omega), if_neg (by omega), if_neg (by omega)]; exact ⟨rfl, h⟩)
  · refine fm_tabIn (off := 56) 57 dX8_count_1 (⟨by omega, by omega⟩) (by omega) (by omega) (by rw [hsw]; rfl) (by decide) ?_
    refine fm_ald0 dX8_count_57 ?_
    refine gr_7_7 dX8_count_58 fd_X8_43 ?_
    refine gi_0_4 dX8_count_61 fd_X8_197 ?_
    refine fm_iretI dX8_count_64 rfl ?_
    unfold sp_count
    first
      | (rw [if_pos (by omega)]; exact ⟨by first | exact h.1.1 | exact h.2.1.1 | exact h.2.2.2.1.1 | exact h.2.2.2.2.1.1 | exact h.2.2.2.2.2.1, h⟩)
      | (rw [if_neg (by omega), if_pos (by omega)]; exact ⟨by first | exact h.1.1 | exact h.2.1.1 | exact h.2.2.2.1.1 | exact h.2.2.2.2.1.1 | exact h.2.2.2.2.2.1, h⟩)
      | (rw [if_neg (by omega), if_neg (by omega), if_pos (by omega)]; exact ⟨by first | exact h.1.1 | exact h.2.1.1 | exact h.2.2.2.1.1 | exact h.2.2.2.2.1.1 | exact h.2.2.2.2.2.1, h⟩)
      | (rw [if_neg (by omega), if_neg (by omega), if_neg (by omega), if_pos (by omega)]; exact ⟨by first | exact h.1.1 | exact h.2.1.1 | exact h.2.2.2.1.1 | exact h.2.2.2.2.1.1 | exact h.2.2.2.2.2.1, h⟩)
      | (rw [if_neg (by omega), if_neg (by omega), if_neg (by omega), if_neg (by omega), if_pos (by omega)]; exact ⟨by first | exact h.1.1 | exact h.2.1.1 | exact h.2.2.2.1.1 | exact h.2.2.2.2.1.1 | exact h.2.2.2.2.2.1, h⟩)
      | (rw [if_neg (by omega), if_neg (by omega), if_neg (by omega), if_neg (by omega), if_neg (by omega)]; exact ⟨rfl, h⟩)
  · refine fm_tabIn (off := 64) 65 dX8_count_1 (⟨by omega, by omega⟩) (by omega) (by omega) (by rw [hsw]; rfl) (by decide) ?_
    refine fm_ald0 dX8_count_65 ?_
    refine gr_7_8 dX8_count_66 fd_X8_50 ?_
    refine gi_6_3 dX8_count_69 fd_X8_214 ?_
    refine fm_iretI dX8_count_72 rfl ?_
    unfold sp_count
    first
      | (rw [if_pos (by omega)]; exact ⟨by first | exact h.1.1 | exact h.2.1.1 | exact h.2.2.2.1.1 | exact h.2.2.2.2.1.1 | exact h.2.2.2.2.2.1, h⟩)
      | (rw [if_neg (by omega), if_pos (by omega)]; exact ⟨by first | exact h.1.1 | exact h.2.1.1 | exact h.2.2.2.1.1 | exact h.2.2.2.2.1.1 | exact h.2.2.2.2.2.1, h⟩)
      | (rw [if_neg (by omega), if_neg (by omega), if_pos (by omega)]; exact ⟨by first | exact h.1.1 | exact h.2.1.1 | exact h.2.2.2.1.1 | exact h.2.2.2.2.1.1 | exact h.2.2.2.2.2.1, h⟩)
      | (rw [if_neg (by omega), if_neg (by omega), if_neg (by omega), if_pos (by omega)]; exact ⟨by first | exact h.1.1 | exact h.2.1.1 | exact h.2.2.2.1.1 | exact h.2.2.2.2.1.1 | exact h.2.2.2.2.2.1, h⟩)
      | (rw [if_neg (by omega), if_neg (by omega), if_neg (by omega), if_neg (by omega), if_pos (by omega)]; exact ⟨by first | exact h.1.1 | exact h.2.1.1 | exact h.2.2.2.1.1 | exact h.2.2.2.2.1.1 | exact h.2.2.2.2.2.1, h⟩)
      | (rw [if_neg (by omega), if_neg (by omega), if_neg (by omega), if_neg (by omega), if_neg (by omega)]; exact ⟨rfl, h⟩)
  · refine fm_tabOut (⟨by omega, by omega⟩) 73 dX8_count_1 hsw (by decide) ?_
    refine fm_iconst dX8_count_73 ?_
    refine fm_iretI dX8_count_74 rfl ?_
    unfold sp_count
    first
      | (rw [if_pos (by omega)]; exact ⟨by first | exact h.1.1 | exact h.2.1.1 | exact h.2.2.2.1.1 | exact h.2.2.2.2.1.1 | exact h.2.2.2.2.2.1, h⟩)
      | (rw [if_neg (by omega), if_pos (by omega)]; exact ⟨by first | exact h.1.1 | exact h.2.1.1 | exact h.2.2.2.1.1 | exact h.2.2.2.2.1.1 | exact h.2.2.2.2.2.1, h⟩)
      | (rw [if_neg (by omega), if_neg (by omega), if_pos (by omega)]; exact ⟨by first | exact h.1.1 | exact h.2.1.1 | exact h.2.2.2.1.1 | exact h.2.2.2.2.1.1 | exact h.2.2.2.2.2.1, h⟩)
      | (rw [if_neg (by omega), if_neg (by omega), if_neg (by omega), if_pos (by omega)]; exact ⟨by first | exact h.1.1 | exact h.2.1.1 | exact h.2.2.2.1.1 | exact h.2.2.2.2.1.1 | exact h.2.2.2.2.2.1, h⟩)
      | (rw [if_neg (by omega), if_neg (by omega), if_neg (by omega), if_neg (by omega), if_pos (by omega)]; exact ⟨by first | exact h.1.1 | exact h.2.1.1 | exact h.2.2.2.1.1 | exact h.2.2.2.2.1.1 | exact h.2.2.2.2.2.1, h⟩)
      | (rw [if_neg (by omega), if_neg (by omega), if_neg (by omega), if_neg (by omega), if_neg (by omega)]; exact ⟨rfl, h⟩)
