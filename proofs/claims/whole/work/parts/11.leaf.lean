theorem fm_up_ne {σ : fm_Mem} {k j a b : Nat} {v : Int} (h : a ≠ k) : fm_up σ k j v a b = σ a b := by simp [fm_up, h]
theorem fm_up_nj {σ : fm_Mem} {k j a b : Nat} {v : Int} (h : b ≠ j) : fm_up σ k j v a b = σ a b := by simp [fm_up, h]
theorem fm_up_eq {σ : fm_Mem} {k j : Nat} {v : Int} : fm_up σ k j v k j = v := by simp [fm_up]
/-- bounds of a FilmWhole's cells -/
def cw (σ : fm_Mem) : Prop := (0 ≤ σ 0 1 ∧ σ 0 1 ≤ 6) ∧ (∀ c, c < 6 → 0 ≤ σ (27 + c) 3 ∧ σ (27 + c) 3 ≤ 40) ∧ (0 ≤ σ 2 2 ∧ σ 2 2 ≤ 40) ∧ (∀ c, c < 6 → ∀ i, i < 40 → (0 ≤ σ (33 + c) i ∧ σ (33 + c) i ≤ 63) ∧ (0 ≤ σ (39 + c) i ∧ σ (39 + c) i ≤ 9) ∧ (0 ≤ σ (45 + c) i ∧ σ (45 + c) i ≤ 1)) ∧ (∀ i, i < 40 → (0 ≤ σ 3 i ∧ σ 3 i ≤ 63) ∧ (0 ≤ σ 4 i ∧ σ 4 i ≤ 5)) ∧ (∀ i, i < 4 → 0 ≤ σ 5 i ∧ σ 5 i ≤ 100) ∧ σ 5 0 ≤ 5
set_option maxRecDepth 20000 in
set_option maxHeartbeats 4000000 in
theorem k_X8_isWithin {ω : fm_O} {σ : fm_Mem} {v top : Int} (rv : fm_R v) (rtop : fm_R top) : fm_Met kc ω yX8_isWithin cX8_isWithin 2 (some .boolean) (fm_rm 0) [fm_I v, fm_I top] σ (fm_pI fun z σ' => ((0 ≤ v ∧ v ≤ top) ∧ z = 1 ∨ ¬ (0 ≤ v ∧ v ≤ top) ∧ z = 0) ∧ σ = σ') := by
  refine fm_start (by decide) rfl (Nat.le_of_ble_eq_true rfl) [some (fm_I v), some (fm_I top)] rfl (fun Γ => ?_)
  refine fm_ild0 dX8_isWithin_0 ?_
  refine fm_if_lt (⟨by omega, by omega⟩) 13 dX8_isWithin_1 (by decide) (fun h1 => ?_) (fun h1 => ?_)
  · refine fm_iconst dX8_isWithin_13 ?_
    exact fm_zretI dX8_isWithin_14 rfl (by omega) ⟨by omega, rfl⟩
  · refine fm_ild0 dX8_isWithin_4 ?_
    refine fm_ild1 dX8_isWithin_5 ?_
    refine fm_icmp_gt (⟨by omega, by omega⟩) (⟨by omega, by omega⟩) 13 dX8_isWithin_6 (by decide) (fun h6 => ?_) (fun h6 => ?_)
    · refine fm_iconst dX8_isWithin_13 ?_
      exact fm_zretI dX8_isWithin_14 rfl (by omega) ⟨by omega, rfl⟩
    · refine fm_iconst dX8_isWithin_9 ?_
      refine fm_goto 14 dX8_isWithin_10 (by decide) ?_
      exact fm_zretI dX8_isWithin_14 rfl (by omega) ⟨by omega, rfl⟩
set_option maxRecDepth 20000 in
set_option maxHeartbeats 4000000 in
theorem k_X8_isCopy {ω : fm_O} {σ : fm_Mem} {c : Int} (rc : fm_R c) (h : cw σ) : fm_Met kc ω yX8_isCopy cX8_isCopy 2 (some .boolean) (fm_rm 0) [fm_r ω 0, fm_I c] σ (fm_pI fun z σ' => ((0 ≤ c ∧ c < σ 0 1) ∧ z = 1 ∨ ¬ (0 ≤ c ∧ c < σ 0 1) ∧ z = 0) ∧ σ = σ') := by
  refine fm_start (by decide) rfl (Nat.le_of_ble_eq_true rfl) [some (fm_r ω 0), some (fm_I c)] rfl (fun Γ => ?_)
  have h1 := h.1
  refine fm_ild1 dX8_isCopy_0 ?_
  refine fm_if_lt (⟨by omega, by omega⟩) 16 dX8_isCopy_1 (by decide) (fun h1 => ?_) (fun h1 => ?_)
  · refine fm_iconst dX8_isCopy_16 ?_
    exact fm_zretI dX8_isCopy_17 rfl (by omega) ⟨by omega, rfl⟩
  · refine fm_ild1 dX8_isCopy_4 ?_
    refine fm_ald0 dX8_isCopy_5 ?_
    refine gi_7_1 dX8_isCopy_6 fd_X8_64 ?_
    refine fm_icmp_ge (⟨by omega, by omega⟩) (⟨by omega, by omega⟩) 16 dX8_isCopy_9 (by decide) (fun h9 => ?_) (fun h9 => ?_)
    · refine fm_iconst dX8_isCopy_16 ?_
      exact fm_zretI dX8_isCopy_17 rfl (by omega) ⟨by omega, rfl⟩
    · refine fm_iconst dX8_isCopy_12 ?_
      refine fm_goto 17 dX8_isCopy_13 (by decide) ?_
      exact fm_zretI dX8_isCopy_17 rfl (by omega) ⟨by omega, rfl⟩
set_option maxRecDepth 20000 in
set_option maxHeartbeats 4000000 in
theorem k_X8_isFrame {ω : fm_O} {σ : fm_Mem} {c i : Int} (rc : fm_R c) (ri : fm_R i) (h : cw σ) : fm_Met kc ω yX8_isFrame cX8_isFrame 3 (some .boolean) (fm_rm 1) [fm_r ω 0, fm_I c, fm_I i] σ (fm_pI fun z σ' => ((0 ≤ c ∧ c < σ 0 1 ∧ 0 ≤ i ∧ i < σ (27 + c.toNat) 3) ∧ z = 1 ∨ ¬ (0 ≤ c ∧ c < σ 0 1 ∧ 0 ≤ i ∧ i < σ (27 + c.toNat) 3) ∧ z = 0) ∧ σ = σ') := by
  refine fm_start (by decide) rfl (Nat.le_of_ble_eq_true rfl) [some (fm_r ω 0), some (fm_I c), some (fm_I i)] rfl (fun Γ => ?_)
  have h1 := h.1
  refine fm_ald0 dX8_isFrame_0 ?_
  refine fm_ild1 dX8_isFrame_1 ?_
  refine fm_cvI dX8_isFrame_2 cl_X8_68 (k_X8_isCopy ⟨by omega, by omega⟩ h) ob_0 rfl rfl (by decide) rfl rfl (Nat.le_of_ble_eq_true rfl) (fun z2 s2 q2 => ?_)
  obtain ⟨q2, rfl⟩ := q2
  refine fm_if_eq (⟨by omega, by omega⟩) 29 dX8_isFrame_5 (by decide) (fun h5 => ?_) (fun h5 => ?_)
  · refine fm_iconst dX8_isFrame_29 ?_
    exact fm_zretI dX8_isFrame_30 rfl (by omega) ⟨by omega, rfl⟩
  · refine fm_ild2 dX8_isFrame_8 ?_
    refine fm_if_lt (⟨by omega, by omega⟩) 29 dX8_isFrame_9 (by decide) (fun h9 => ?_) (fun h9 => ?_)
    · refine fm_iconst dX8_isFrame_29 ?_
      exact fm_zretI dX8_isFrame_30 rfl (by omega) ⟨by omega, rfl⟩
    · refine fm_ild2 dX8_isFrame_12 ?_
      refine fm_ald0 dX8_isFrame_13 ?_
      refine gr_7_0 dX8_isFrame_14 fd_X8_11 ?_
      refine fm_ild1 dX8_isFrame_17 ?_
      have hs := h.2.1 c.toNat (by omega)
      refine ar_1 (by omega) (by omega) dX8_isFrame_18 ?_
      refine gi_3_3 (by omega) dX8_isFrame_19 fd_X8_83 ?_
      refine fm_icmp_ge (⟨by omega, by omega⟩) (⟨by omega, by omega⟩) 29 dX8_isFrame_22 (by decide) (fun h22 => ?_) (fun h22 => ?_)
      · refine fm_iconst dX8_isFrame_29 ?_
        exact fm_zretI dX8_isFrame_30 rfl (by omega) ⟨by omega, rfl⟩
      · refine fm_iconst dX8_isFrame_25 ?_
        refine fm_goto 30 dX8_isFrame_26 (by decide) ?_
        exact fm_zretI dX8_isFrame_30 rfl (by omega) ⟨by omega, rfl⟩
set_option maxRecDepth 20000 in
set_option maxHeartbeats 4000000 in
theorem k_X8_isRow {ω : fm_O} {σ : fm_Mem} {c : Int} (rc : fm_R c) (h : cw σ) : fm_Met kc ω yX8_isRow cX8_isRow 2 (some .boolean) (fm_rm 1) [fm_r ω 0, fm_I c] σ (fm_pI fun z σ' => ((c = -1 ∨ (0 ≤ c ∧ c < σ 0 1)) ∧ z = 1 ∨ ¬ (c = -1 ∨ (0 ≤ c ∧ c < σ 0 1)) ∧ z = 0) ∧ σ = σ') := by
  refine fm_start (by decide) rfl (Nat.le_of_ble_eq_true rfl) [some (fm_r ω 0), some (fm_I c)] rfl (fun Γ => ?_)
  have h1 := h.1
  refine fm_ild1 dX8_isRow_0 ?_
  refine fm_iconst dX8_isRow_1 ?_
  refine fm_icmp_eq (⟨by omega, by omega⟩) (⟨by omega, by omega⟩) 13 dX8_isRow_2 (by decide) (fun h2 => ?_) (fun h2 => ?_)
  · refine fm_iconst dX8_isRow_13 ?_
    refine fm_goto 18 dX8_isRow_14 (by decide) ?_
    exact fm_zretI dX8_isRow_18 rfl (by omega) ⟨by omega, rfl⟩
  · refine fm_ald0 dX8_isRow_5 ?_
    refine fm_ild1 dX8_isRow_6 ?_
    refine fm_cvI dX8_isRow_7 cl_X8_68 (k_X8_isCopy ⟨by omega, by omega⟩ h) ob_0 rfl rfl (by decide) rfl rfl (Nat.le_of_ble_eq_true rfl) (fun z7 s7 q7 => ?_)
    obtain ⟨q7, rfl⟩ := q7
    refine fm_if_eq (⟨by omega, by omega⟩) 17 dX8_isRow_10 (by decide) (fun h10 => ?_) (fun h10 => ?_)
    · refine fm_iconst dX8_isRow_17 ?_
      exact fm_zretI dX8_isRow_18 rfl (by omega) ⟨by omega, rfl⟩
    · refine fm_iconst dX8_isRow_13 ?_
      refine fm_goto 18 dX8_isRow_14 (by decide) ?_
      exact fm_zretI dX8_isRow_18 rfl (by omega) ⟨by omega, rfl⟩
set_option maxRecDepth 20000 in
set_option maxHeartbeats 4000000 in
theorem k_X8_sizeOfRow {ω : fm_O} {σ : fm_Mem} {c : Int} (hc : c = -1 ∨ (0 ≤ c ∧ c < 6)) : fm_Met kc ω yX8_sizeOfRow cX8_sizeOfRow 2 (some .int) (fm_rm 0) [fm_r ω 0, fm_I c] σ (fm_pI fun z σ' => z = (if c = -1 then σ 2 2 else σ (27 + c.toNat) 3) ∧ σ = σ') := by
  refine fm_start (by decide) rfl (Nat.le_of_ble_eq_true rfl) [some (fm_r ω 0), some (fm_I c)] rfl (fun Γ => ?_)
  refine fm_ild1 dX8_sizeOfRow_0 ?_
  refine fm_iconst dX8_sizeOfRow_1 ?_
  refine fm_icmp_ne (⟨by omega, by omega⟩) (⟨by omega, by omega⟩) 15 dX8_sizeOfRow_2 (by decide) (fun h2 => ?_) (fun h2 => ?_)
  · refine fm_ald0 dX8_sizeOfRow_15 ?_
    refine gr_7_0 dX8_sizeOfRow_16 fd_X8_11 ?_
    refine fm_ild1 dX8_sizeOfRow_19 ?_
    refine ar_1 (by omega) (by omega) dX8_sizeOfRow_20 ?_
    refine gi_3_3 (by omega) dX8_sizeOfRow_21 fd_X8_83 ?_
    first | exact fm_iretI dX8_sizeOfRow_24 rfl ⟨by rw [if_pos h2], rfl⟩ | exact fm_iretI dX8_sizeOfRow_24 rfl ⟨by rw [if_neg h2], rfl⟩
  · refine fm_ald0 dX8_sizeOfRow_5 ?_
    refine gr_7_2 dX8_sizeOfRow_6 fd_X8_18 ?_
    refine gi_4_2 dX8_sizeOfRow_9 fd_X8_121 ?_
    refine fm_goto 24 dX8_sizeOfRow_12 (by decide) ?_
    first | exact fm_iretI dX8_sizeOfRow_24 rfl ⟨by rw [if_pos h2], rfl⟩ | exact fm_iretI dX8_sizeOfRow_24 rfl ⟨by rw [if_neg h2], rfl⟩
set_option maxRecDepth 20000 in
set_option maxHeartbeats 4000000 in
theorem k_X8_marksOfRow {ω : fm_O} {σ : fm_Mem} {c : Int} (hc : c = -1 ∨ (0 ≤ c ∧ c < 6)) : fm_Met kc ω yX8_marksOfRow cX8_marksOfRow 2 (some (.array .int)) (fm_rm 0) [fm_r ω 0, fm_I c] σ (fm_pR ω fun k σ' => k = (if c = -1 then 3 else 33 + c.toNat) ∧ σ = σ') := by
  refine fm_start (by decide) rfl (Nat.le_of_ble_eq_true rfl) [some (fm_r ω 0), some (fm_I c)] rfl (fun Γ => ?_)
  refine fm_ild1 dX8_marksOfRow_0 ?_
  refine fm_iconst dX8_marksOfRow_1 ?_
  refine fm_icmp_ne (⟨by omega, by omega⟩) (⟨by omega, by omega⟩) 15 dX8_marksOfRow_2 (by decide) (fun h2 => ?_) (fun h2 => ?_)
  · refine fm_ald0 dX8_marksOfRow_15 ?_
    refine gr_7_0 dX8_marksOfRow_16 fd_X8_11 ?_
    refine fm_ild1 dX8_marksOfRow_19 ?_
    refine ar_1 (by omega) (by omega) dX8_marksOfRow_20 ?_
    refine gr_3_0 (by omega) dX8_marksOfRow_21 fd_X8_109 ?_
    first | exact fm_aretR dX8_marksOfRow_24 rfl ⟨by rw [if_pos h2], rfl⟩ | exact fm_aretR dX8_marksOfRow_24 rfl ⟨by rw [if_neg h2], rfl⟩
  · refine fm_ald0 dX8_marksOfRow_5 ?_
    refine gr_7_2 dX8_marksOfRow_6 fd_X8_18 ?_
    refine gr_4_0 dX8_marksOfRow_9 fd_X8_221 ?_
    refine fm_goto 24 dX8_marksOfRow_12 (by decide) ?_
    first | exact fm_aretR dX8_marksOfRow_24 rfl ⟨by rw [if_pos h2], rfl⟩ | exact fm_aretR dX8_marksOfRow_24 rfl ⟨by rw [if_neg h2], rfl⟩
set_option maxRecDepth 20000 in
set_option maxHeartbeats 4000000 in
theorem k_X3_hasRoomFor {ω : fm_O} {σ : fm_Mem} {c : Nat} {n : Int} (hc : c < 6) (h : cw σ) (hn : 0 ≤ n ∧ n ≤ 100) : fm_Met kc ω yX3_hasRoomFor cX3_hasRoomFor 2 (some .boolean) (fm_rm 0) [fm_r ω (27 + c), fm_I n] σ (fm_pI fun z σ' => ((σ (27 + c) 3 + n ≤ 40) ∧ z = 1 ∨ ¬ (σ (27 + c) 3 + n ≤ 40) ∧ z = 0) ∧ σ = σ') := by
  refine fm_start (by decide) rfl (Nat.le_of_ble_eq_true rfl) [some (fm_r ω (27 + c)), some (fm_I n)] rfl (fun Γ => ?_)
  have h1 := h.2.1 c hc
  refine fm_ald0 dX3_hasRoomFor_0 ?_
  refine gi_3_3 (by omega) dX3_hasRoomFor_1 fd_X3_21 ?_
  refine fm_ild1 dX3_hasRoomFor_4 ?_
  refine fm_iadd dX3_hasRoomFor_5 ?_
  refine fm_bipush (by decide) dX3_hasRoomFor_6 ?_
  refine fm_icmp_gt (⟨by omega, by omega⟩) (⟨by omega, by omega⟩) 15 dX3_hasRoomFor_8 (by decide) (fun h8 => ?_) (fun h8 => ?_)
  · refine fm_iconst dX3_hasRoomFor_15 ?_
    exact fm_zretI dX3_hasRoomFor_16 rfl (by omega) ⟨by omega, rfl⟩
  · refine fm_iconst dX3_hasRoomFor_11 ?_
    refine fm_goto 16 dX3_hasRoomFor_12 (by decide) ?_
    exact fm_zretI dX3_hasRoomFor_16 rfl (by omega) ⟨by omega, rfl⟩
set_option maxRecDepth 20000 in
set_option maxHeartbeats 4000000 in
theorem k_X3_append {ω : fm_O} {σ : fm_Mem} {c : Nat} {m v cam : Int} (hc : c < 6) (h0 : 0 ≤ σ (27 + c) 3) (h1 : σ (27 + c) 3 < 40) : fm_Met kc ω yX3_append cX3_append 4 none (fm_rm 0) [fm_r ω (27 + c), fm_I m, fm_I v, fm_I cam] σ (fm_pN fun σ' => σ' = fm_up (fm_up (fm_up (fm_up σ (33 + c) (σ (27 + c) 3).toNat m) (39 + c) (σ (27 + c) 3).toNat v) (45 + c) (σ (27 + c) 3).toNat cam) (27 + c) 3 (σ (27 + c) 3 + 1)) := by
  refine fm_start (by decide) rfl (Nat.le_of_ble_eq_true rfl) [some (fm_r ω (27 + c)), some (fm_I m), some (fm_I v), some (fm_I cam)] rfl (fun Γ => ?_)
  refine fm_ald0 dX3_append_0 ?_
  refine gr_3_0 (by omega) dX3_append_1 fd_X3_9 ?_
  refine fm_ald0 dX3_append_4 ?_
  refine gi_3_3 (by omega) dX3_append_5 fd_X3_21 ?_
  try simp (disch := omega) only [fm_up_ne, fm_up_nj, fm_up_eq]
  refine fm_ild1 dX3_append_8 ?_
  refine fm_iast dX3_append_9 (ia_rm (by omega)) (by omega) (by omega) ?_
  refine fm_ald0 dX3_append_10 ?_
  refine gr_3_1 (by omega) dX3_append_11 fd_X3_15 ?_
  refine fm_ald0 dX3_append_14 ?_
  refine gi_3_3 (by omega) dX3_append_15 fd_X3_21 ?_
  try simp (disch := omega) only [fm_up_ne, fm_up_nj, fm_up_eq]
  refine fm_ild2 dX3_append_18 ?_
  refine fm_iast dX3_append_19 (ia_rw (by omega)) (by omega) (by omega) ?_
  refine fm_ald0 dX3_append_20 ?_
  refine gr_3_2 (by omega) dX3_append_21 fd_X3_18 ?_
  refine fm_ald0 dX3_append_24 ?_
  refine gi_3_3 (by omega) dX3_append_25 fd_X3_21 ?_
  try simp (disch := omega) only [fm_up_ne, fm_up_nj, fm_up_eq]
  refine fm_ild3 dX3_append_28 ?_
  refine fm_iast dX3_append_29 (ia_rc (by omega)) (by omega) (by omega) ?_
  refine fm_ald0 dX3_append_30 ?_
  refine fm_dupR dX3_append_31 ?_
  refine gi_3_3 (by omega) dX3_append_32 fd_X3_21 ?_
  try simp (disch := omega) only [fm_up_ne, fm_up_nj, fm_up_eq]
  refine fm_iconst dX3_append_35 ?_
  refine fm_iadd dX3_append_36 ?_
  refine pf_3_3 (by omega) dX3_append_37 fd_X3_21 ?_
  exact fm_vretN dX3_append_40 rfl rfl
set_option maxRecDepth 20000 in
set_option maxHeartbeats 4000000 in
theorem k_X4_has {ω : fm_O} {σ : fm_Mem} {p : Int} (rp : fm_R p) (h : cw σ) : fm_Met kc ω yX4_has cX4_has 2 (some .boolean) (fm_rm 0) [fm_r ω 2, fm_I p] σ (fm_pI fun z σ' => ((0 ≤ p ∧ p < σ 2 2) ∧ z = 1 ∨ ¬ (0 ≤ p ∧ p < σ 2 2) ∧ z = 0) ∧ σ = σ') := by
  refine fm_start (by decide) rfl (Nat.le_of_ble_eq_true rfl) [some (fm_r ω 2), some (fm_I p)] rfl (fun Γ => ?_)
  have h1 := h.2.2.1
  refine fm_ild1 dX4_has_0 ?_
  refine fm_if_lt (⟨by omega, by omega⟩) 16 dX4_has_1 (by decide) (fun h1 => ?_) (fun h1 => ?_)
  · refine fm_iconst dX4_has_16 ?_
    exact fm_zretI dX4_has_17 rfl (by omega) ⟨by omega, rfl⟩
  · refine fm_ild1 dX4_has_4 ?_
    refine fm_ald0 dX4_has_5 ?_
    refine gi_4_2 dX4_has_6 fd_X4_18 ?_
    refine fm_icmp_ge (⟨by omega, by omega⟩) (⟨by omega, by omega⟩) 16 dX4_has_9 (by decide) (fun h9 => ?_) (fun h9 => ?_)
    · refine fm_iconst dX4_has_16 ?_
      exact fm_zretI dX4_has_17 rfl (by omega) ⟨by omega, rfl⟩
    · refine fm_iconst dX4_has_12 ?_
      refine fm_goto 17 dX4_has_13 (by decide) ?_
      exact fm_zretI dX4_has_17 rfl (by omega) ⟨by omega, rfl⟩
set_option maxRecDepth 20000 in
set_option maxHeartbeats 4000000 in
theorem k_X4_append {ω : fm_O} {σ : fm_Mem} {m v : Int} (h0 : 0 ≤ σ 2 2) (h1 : σ 2 2 < 40) : fm_Met kc ω yX4_append cX4_append 3 none (fm_rm 0) [fm_r ω 2, fm_I m, fm_I v] σ (fm_pN fun σ' => σ' = fm_up (fm_up (fm_up σ 3 (σ 2 2).toNat m) 4 (σ 2 2).toNat v) 2 2 (σ 2 2 + 1)) := by
  refine fm_start (by decide) rfl (Nat.le_of_ble_eq_true rfl) [some (fm_r ω 2), some (fm_I m), some (fm_I v)] rfl (fun Γ => ?_)
  refine fm_ald0 dX4_append_0 ?_
  refine gr_4_0 dX4_append_1 fd_X4_9 ?_
  refine fm_ald0 dX4_append_4 ?_
  refine gi_4_2 dX4_append_5 fd_X4_18 ?_
  try simp (disch := omega) only [fm_up_ne, fm_up_nj, fm_up_eq]
  refine fm_ild1 dX4_append_8 ?_
  refine fm_iast dX4_append_9 ia_3 (by omega) (by omega) ?_
  refine fm_ald0 dX4_append_10 ?_
  refine gr_4_1 dX4_append_11 fd_X4_15 ?_
  refine fm_ald0 dX4_append_14 ?_
  refine gi_4_2 dX4_append_15 fd_X4_18 ?_
  try simp (disch := omega) only [fm_up_ne, fm_up_nj, fm_up_eq]
  refine fm_ild2 dX4_append_18 ?_
  refine fm_iast dX4_append_19 ia_4 (by omega) (by omega) ?_
  refine fm_ald0 dX4_append_20 ?_
  refine fm_dupR dX4_append_21 ?_
  refine gi_4_2 dX4_append_22 fd_X4_18 ?_
  try simp (disch := omega) only [fm_up_ne, fm_up_nj, fm_up_eq]
  refine fm_iconst dX4_append_25 ?_
  refine fm_iadd dX4_append_26 ?_
  refine pf_4_2 dX4_append_27 fd_X4_18 ?_
  exact fm_vretN dX4_append_30 rfl rfl
set_option maxRecDepth 20000 in
set_option maxHeartbeats 4000000 in
theorem k_X2_append {ω : fm_O} {σ : fm_Mem} {c a b t : Int} (h0 : 0 ≤ σ 13 4) (h1 : σ 13 4 < 12) : fm_Met kc ω yX2_append cX2_append 5 none (fm_rm 0) [fm_r ω 13, fm_I c, fm_I a, fm_I b, fm_I t] σ (fm_pN fun σ' => σ' = fm_up (fm_up (fm_up (fm_up (fm_up σ 14 (σ 13 4).toNat c) 15 (σ 13 4).toNat a) 16 (σ 13 4).toNat b) 17 (σ 13 4).toNat t) 13 4 (σ 13 4 + 1)) := by
  refine fm_start (by decide) rfl (Nat.le_of_ble_eq_true rfl) [some (fm_r ω 13), some (fm_I c), some (fm_I a), some (fm_I b), some (fm_I t)] rfl (fun Γ => ?_)
  refine fm_ald0 dX2_append_0 ?_
  refine gr_2_0 dX2_append_1 fd_X2_9 ?_
  refine fm_ald0 dX2_append_4 ?_
  refine gi_2_4 dX2_append_5 fd_X2_24 ?_
  try simp (disch := omega) only [fm_up_ne, fm_up_nj, fm_up_eq]
  refine fm_ild1 dX2_append_8 ?_
  refine fm_iast dX2_append_9 ia_14 (by omega) (by omega) ?_
  refine fm_ald0 dX2_append_10 ?_
  refine gr_2_1 dX2_append_11 fd_X2_15 ?_
  refine fm_ald0 dX2_append_14 ?_
  refine gi_2_4 dX2_append_15 fd_X2_24 ?_
  try simp (disch := omega) only [fm_up_ne, fm_up_nj, fm_up_eq]
  refine fm_ild2 dX2_append_18 ?_
  refine fm_iast dX2_append_19 ia_15 (by omega) (by omega) ?_
  refine fm_ald0 dX2_append_20 ?_
  refine gr_2_2 dX2_append_21 fd_X2_18 ?_
  refine fm_ald0 dX2_append_24 ?_
  refine gi_2_4 dX2_append_25 fd_X2_24 ?_
  try simp (disch := omega) only [fm_up_ne, fm_up_nj, fm_up_eq]
  refine fm_ild3 dX2_append_28 ?_
  refine fm_iast dX2_append_29 ia_16 (by omega) (by omega) ?_
  refine fm_ald0 dX2_append_30 ?_
  refine gr_2_3 dX2_append_31 fd_X2_21 ?_
  refine fm_ald0 dX2_append_34 ?_
  refine gi_2_4 dX2_append_35 fd_X2_24 ?_
  try simp (disch := omega) only [fm_up_ne, fm_up_nj, fm_up_eq]
  refine fm_ild4 dX2_append_38 ?_
  refine fm_iast dX2_append_40 ia_17 (by omega) (by omega) ?_
  refine fm_ald0 dX2_append_41 ?_
  refine fm_dupR dX2_append_42 ?_
  refine gi_2_4 dX2_append_43 fd_X2_24 ?_
  try simp (disch := omega) only [fm_up_ne, fm_up_nj, fm_up_eq]
  refine fm_iconst dX2_append_46 ?_
  refine fm_iadd dX2_append_47 ?_
  refine pf_2_4 dX2_append_48 fd_X2_24 ?_
  exact fm_vretN dX2_append_51 rfl rfl
set_option maxRecDepth 20000 in
set_option maxHeartbeats 4000000 in
theorem k_X0_append {ω : fm_O} {σ : fm_Mem} {a b v : Int} (ha : 0 ≤ a ∧ a < 6) (hb : 0 ≤ b ∧ b < 6) : fm_Met kc ω yX0_append cX0_append 4 none (fm_rm 0) [fm_r ω 18, fm_I a, fm_I b, fm_I v] σ (fm_pN fun σ' => σ' = fm_up (fm_up σ (51 + a.toNat) b.toNat (σ (51 + a.toNat) b.toNat + v)) 18 4 (σ 18 4 + 1)) := by
  refine fm_start (by decide) rfl (Nat.le_of_ble_eq_true rfl) [some (fm_r ω 18), some (fm_I a), some (fm_I b), some (fm_I v)] rfl (fun Γ => ?_)
  refine fm_ald0 dX0_append_0 ?_
  refine gr_0_0 dX0_append_1 fd_X0_11 ?_
  refine fm_ild1 dX0_append_4 ?_
  refine ar_19 (by omega) (by omega) dX0_append_5 ?_
  refine fm_ild2 dX0_append_6 ?_
  refine fm_dup2 dX0_append_7 ?_
  refine fm_iald dX0_append_8 (ia_wt (by omega)) (by omega) (by omega) ?_
  try simp (disch := omega) only [fm_up_ne, fm_up_nj, fm_up_eq]
  refine fm_ild3 dX0_append_9 ?_
  refine fm_iadd dX0_append_10 ?_
  refine fm_iast dX0_append_11 (ia_wt (by omega)) (by omega) (by omega) ?_
  refine fm_ald0 dX0_append_12 ?_
  refine fm_dupR dX0_append_13 ?_
  refine gi_0_4 dX0_append_14 fd_X0_26 ?_
  try simp (disch := omega) only [fm_up_ne, fm_up_nj, fm_up_eq]
  refine fm_iconst dX0_append_17 ?_
  refine fm_iadd dX0_append_18 ?_
  refine pf_0_4 dX0_append_19 fd_X0_26 ?_
  exact fm_vretN dX0_append_22 rfl rfl
set_option maxRecDepth 20000 in
set_option maxHeartbeats 4000000 in
theorem k_X0_quarrel {ω : fm_O} {σ : fm_Mem}  : fm_Met kc ω yX0_quarrel cX0_quarrel 1 (some .int) (fm_rm 0) [fm_r ω 18] σ (fm_pI fun z σ' => z = σ 20 0 ∧ σ = σ') := by
  refine fm_start (by decide) rfl (Nat.le_of_ble_eq_true rfl) [some (fm_r ω 18)] rfl (fun Γ => ?_)
  refine fm_ald0 dX0_quarrel_0 ?_
  refine gr_0_1 dX0_quarrel_1 fd_X0_16 ?_
  refine fm_iconst dX0_quarrel_4 ?_
  refine fm_iald dX0_quarrel_5 ia_20 (by omega) (by omega) ?_
  exact fm_iretI dX0_quarrel_6 rfl ⟨rfl, rfl⟩
set_option maxRecDepth 20000 in
set_option maxHeartbeats 4000000 in
theorem k_X0_rivals {ω : fm_O} {σ : fm_Mem}  : fm_Met kc ω yX0_rivals cX0_rivals 1 (some .int) (fm_rm 0) [fm_r ω 18] σ (fm_pI fun z σ' => z = σ 21 0 ∧ σ = σ') := by
  refine fm_start (by decide) rfl (Nat.le_of_ble_eq_true rfl) [some (fm_r ω 18)] rfl (fun Γ => ?_)
  refine fm_ald0 dX0_rivals_0 ?_
  refine gr_0_2 dX0_rivals_1 fd_X0_20 ?_
  refine fm_iconst dX0_rivals_4 ?_
  refine fm_iald dX0_rivals_5 ia_21 (by omega) (by omega) ?_
  exact fm_iretI dX0_rivals_6 rfl ⟨rfl, rfl⟩
set_option maxRecDepth 20000 in
set_option maxHeartbeats 4000000 in
theorem k_X1_cost {ω : fm_O} {σ : fm_Mem}  : fm_Met kc ω yX1_cost cX1_cost 1 (some .int) (fm_rm 0) [fm_r ω 6] σ (fm_pI fun z σ' => z = σ 63 0 ∧ σ = σ') := by
  refine fm_start (by decide) rfl (Nat.le_of_ble_eq_true rfl) [some (fm_r ω 6)] rfl (fun Γ => ?_)
  refine fm_ald0 dX1_cost_0 ?_
  refine gr_1_0 dX1_cost_1 fd_X1_11 ?_
  refine fm_iconst dX1_cost_4 ?_
  refine ar_7 (by omega) (by omega) dX1_cost_5 ?_
  refine fm_iconst dX1_cost_6 ?_
  refine fm_iald dX1_cost_7 (ia_ll (by omega)) (by omega) (by omega) ?_
  exact fm_iretI dX1_cost_8 rfl ⟨rfl, rfl⟩
def pcost (x y : Int) : Int := min 5 (if x - y < 0 then -(x - y) else x - y)
theorem pcost_b (x y : Int) : 0 ≤ pcost x y ∧ pcost x y ≤ 5 := by unfold pcost; split <;> omega
set_option maxRecDepth 20000 in
set_option maxHeartbeats 4000000 in
theorem k_X1_pairCost {ω : fm_O} {σ : fm_Mem} {x y : Int} (hx : 0 ≤ x ∧ x ≤ 63) (hy : 0 ≤ y ∧ y ≤ 63) : fm_Met kc ω yX1_pairCost cX1_pairCost 2 (some .int) (fm_rm 1) [fm_I x, fm_I y] σ (fm_pI fun z σ' => z = pcost x y ∧ σ = σ') := by
  refine fm_start (by decide) rfl (Nat.le_of_ble_eq_true rfl) [some (fm_I x), some (fm_I y)] rfl (fun Γ => ?_)
  refine fm_iconst dX1_pairCost_0 ?_
  refine fm_ild0 dX1_pairCost_1 ?_
  refine fm_ild1 dX1_pairCost_2 ?_
  refine fm_isub dX1_pairCost_3 ?_
  refine fm_abs dX1_pairCost_4 cl_X1_41 (by decide) (Nat.le_of_ble_eq_true rfl) (⟨by omega, by omega⟩) ?_
  refine fm_min dX1_pairCost_7 cl_X1_32 (by decide) (Nat.le_of_ble_eq_true rfl) (⟨by omega, by omega⟩) (by constructor <;> split <;> omega) ?_
  exact fm_iretI dX1_pairCost_10 rfl ⟨rfl, rfl⟩
