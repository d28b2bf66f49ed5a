theorem fm_nn {m : Nat} (h : m < 2147483648) : Int32.ofInt (m : Int) = nI m := by
  rw [fm_nat (by omega) (by omega), Int.toNat_natCast]
theorem fm_divL {x d : Int} (h0 : 0 ≤ x) (h1 : x < 2147483648) (d0 : 0 < d) (d1 : d < 2147483648) : Int32.ofInt x / Int32.ofInt d = Int32.ofInt (x / d) := by
  obtain ⟨m, rfl⟩ := Int.eq_ofNat_of_zero_le h0
  obtain ⟨n, rfl⟩ := Int.eq_ofNat_of_zero_le (Int.le_of_lt d0)
  have e : ((m : Int) / (n : Int)) = ((m / n : Nat) : Int) := rfl
  have hq : m / n ≤ m := Nat.div_le_self m n
  rw [e, fm_nn (by omega), fm_nn (by omega), fm_nn (by omega), pk_div (by omega) (by omega) (by omega)]
theorem fm_remL {x d : Int} (h0 : 0 ≤ x) (h1 : x < 2147483648) (d0 : 0 < d) (d1 : d < 2147483648) : Int32.ofInt x - Int32.ofInt x / Int32.ofInt d * Int32.ofInt d = Int32.ofInt (x % d) := by
  obtain ⟨m, rfl⟩ := Int.eq_ofNat_of_zero_le h0
  obtain ⟨n, rfl⟩ := Int.eq_ofNat_of_zero_le (Int.le_of_lt d0)
  have e : ((m : Int) % (n : Int)) = ((m % n : Nat) : Int) := rfl
  have hq : m % n ≤ m := Nat.mod_le m n
  rw [e, fm_nn (by omega), fm_nn (by omega), fm_nn (by omega), pk_rem (by omega) (by omega) (by omega)]
theorem fm_shrL {x d : Int} (k : Nat) (s : Int32) (hs : (s.toBitVec.smod 32).toNat = k) (hd : d = ((2 ^ k : Nat) : Int)) (h0 : 0 ≤ x) (h1 : x < 2147483648) : Int32.ofInt x >>> s = Int32.ofInt (x / d) := by
  obtain ⟨m, rfl⟩ := Int.eq_ofNat_of_zero_le h0
  subst hd
  have e : ((m : Int) / ((2 ^ k : Nat) : Int)) = ((m / 2 ^ k : Nat) : Int) := rfl
  have hq : m / 2 ^ k ≤ m := Nat.div_le_self m _
  rw [e, fm_nn (by omega), fm_nn (by omega), pk_shrN (by omega) s k hs]
theorem fm_andL {x d : Int} (k : Nat) (s : Int32) (hs : s.toBitVec.toNat = 2 ^ k - 1) (hd : d = ((2 ^ k : Nat) : Int)) (h0 : 0 ≤ x) (h1 : x < 2147483648) : Int32.ofInt x &&& s = Int32.ofInt (x % d) := by
  obtain ⟨m, rfl⟩ := Int.eq_ofNat_of_zero_le h0
  subst hd
  have e : ((m : Int) % ((2 ^ k : Nat) : Int)) = ((m % 2 ^ k : Nat) : Int) := rfl
  have hq : m % 2 ^ k ≤ m := Nat.mod_le m _
  rw [e, fm_nn (by omega), fm_nn (by omega), pk_andN (by omega) k hs]

set_option maxRecDepth 20000 in
set_option maxHeartbeats 4000000 in
theorem k_X9_in {ω : fm_O} {σ : fm_Mem} {v a b : Int} (rv : fm_R v) (ra : fm_R a) (rb : fm_R b) : fm_Met km ω yX9_in cX9_in 3 (some .boolean) (fm_rm 0) [fm_I v, fm_I a, fm_I b] σ (fm_pI fun z σ' => ((a ≤ v ∧ v ≤ b) ∧ z = 1 ∨ ¬ (a ≤ v ∧ v ≤ b) ∧ z = 0) ∧ σ = σ') := by
  refine fm_start (by decide) rfl (Nat.le_of_ble_eq_true rfl) [some (fm_I v), some (fm_I a), some (fm_I b)] rfl (fun Γ => ?_)
  refine fm_ild0 dX9_in_0 ?_
  refine fm_ild1 dX9_in_1 ?_
  refine fm_icmp_lt (⟨by omega, by omega⟩) (⟨by omega, by omega⟩) 14 dX9_in_2 (by decide) (fun h2 => ?_) (fun h2 => ?_)
  · refine fm_iconst dX9_in_14 ?_
    exact fm_zretI dX9_in_15 rfl (by omega) ⟨by omega, rfl⟩
  · refine fm_ild0 dX9_in_5 ?_
    refine fm_ild2 dX9_in_6 ?_
    refine fm_icmp_gt (⟨by omega, by omega⟩) (⟨by omega, by omega⟩) 14 dX9_in_7 (by decide) (fun h7 => ?_) (fun h7 => ?_)
    · refine fm_iconst dX9_in_14 ?_
      exact fm_zretI dX9_in_15 rfl (by omega) ⟨by omega, rfl⟩
    · refine fm_iconst dX9_in_10 ?_
      refine fm_goto 15 dX9_in_11 (by decide) ?_
      exact fm_zretI dX9_in_15 rfl (by omega) ⟨by omega, rfl⟩
set_option maxRecDepth 20000 in
set_option maxHeartbeats 4000000 in
theorem k_X9_isCopy {ω : fm_O} {σ : fm_Mem} {c : Int} (rc : fm_R c) (b0 : 0 ≤ σ 0 0 ∧ σ 0 0 ≤ 6) : fm_Met km ω yX9_isCopy cX9_isCopy 2 (some .boolean) (fm_rm 1) [fm_r ω 0, fm_I c] σ (fm_pI fun z σ' => ((0 ≤ c ∧ c < σ 0 0) ∧ z = 1 ∨ ¬ (0 ≤ c ∧ c < σ 0 0) ∧ z = 0) ∧ σ = σ') := by
  refine fm_start (by decide) rfl (Nat.le_of_ble_eq_true rfl) [some (fm_r ω 0), some (fm_I c)] rfl (fun Γ => ?_)
  refine fm_ild1 dX9_isCopy_0 ?_
  refine fm_iconst dX9_isCopy_1 ?_
  refine fm_ald0 dX9_isCopy_2 ?_
  refine gi_8_0 dX9_isCopy_3 fd_X9_73 ?_
  refine fm_iconst dX9_isCopy_6 ?_
  refine fm_isub dX9_isCopy_7 ?_
  refine fm_csI dX9_isCopy_8 cl_X9_77 (k_X9_in ⟨by omega, by omega⟩ ⟨by omega, by omega⟩ ⟨by omega, by omega⟩) rfl rfl (by decide) rfl rfl (Nat.le_of_ble_eq_true rfl) (fun z8 s8 q8 => ?_)
  obtain ⟨q8, rfl⟩ := q8
  exact fm_zretI dX9_isCopy_11 rfl (by omega) ⟨by omega, rfl⟩
set_option maxRecDepth 20000 in
set_option maxHeartbeats 4000000 in
theorem k_X9_isFrame {ω : fm_O} {σ : fm_Mem} {c i : Int} (rc : fm_R c) (ri : fm_R i) (hf : fi σ) : fm_Met km ω yX9_isFrame cX9_isFrame 3 (some .boolean) (fm_rm 2) [fm_r ω 0, fm_I c, fm_I i] σ (fm_pI fun z σ' => ((0 ≤ c ∧ c < σ 0 0 ∧ 0 ≤ i ∧ i < σ 1 c.toNat) ∧ z = 1 ∨ ¬ (0 ≤ c ∧ c < σ 0 0 ∧ 0 ≤ i ∧ i < σ 1 c.toNat) ∧ z = 0) ∧ σ = σ') := by
  refine fm_start (by decide) rfl (Nat.le_of_ble_eq_true rfl) [some (fm_r ω 0), some (fm_I c), some (fm_I i)] rfl (fun Γ => ?_)
  have b0 := hf.1
  refine fm_ald0 dX9_isFrame_0 ?_
  refine fm_ild1 dX9_isFrame_1 ?_
  refine fm_cvI dX9_isFrame_2 cl_X9_81 (k_X9_isCopy ⟨by omega, by omega⟩ b0) mb_0 rfl rfl (by decide) rfl rfl (Nat.le_of_ble_eq_true rfl) (fun z2 s2 q2 => ?_)
  obtain ⟨q2, rfl⟩ := q2
  refine fm_if_eq (⟨by omega, by omega⟩) 28 dX9_isFrame_5 (by decide) (fun h5 => ?_) (fun h5 => ?_)
  · refine fm_iconst dX9_isFrame_28 ?_
    exact fm_zretI dX9_isFrame_29 rfl (by omega) ⟨by omega, rfl⟩
  · refine fm_ild2 dX9_isFrame_8 ?_
    refine fm_iconst dX9_isFrame_9 ?_
    refine fm_ald0 dX9_isFrame_10 ?_
    refine gr_8_1 dX9_isFrame_11 fd_X9_7 ?_
    refine fm_ild1 dX9_isFrame_14 ?_
    have hs := hf.2.1 c.toNat (by omega)
    refine fm_iald dX9_isFrame_15 ma_1 (by omega) (by omega) ?_
    refine fm_iconst dX9_isFrame_16 ?_
    refine fm_isub dX9_isFrame_17 ?_
    refine fm_csI dX9_isFrame_18 cl_X9_77 (k_X9_in ⟨by omega, by omega⟩ ⟨by omega, by omega⟩ ⟨by omega, by omega⟩) rfl rfl (by decide) rfl rfl (Nat.le_of_ble_eq_true rfl) (fun z18 s18 q18 => ?_)
    obtain ⟨q18, rfl⟩ := q18
    refine fm_if_eq (⟨by omega, by omega⟩) 28 dX9_isFrame_21 (by decide) (fun h21 => ?_) (fun h21 => ?_)
    · refine fm_iconst dX9_isFrame_28 ?_
      exact fm_zretI dX9_isFrame_29 rfl (by omega) ⟨by omega, rfl⟩
    · refine fm_iconst dX9_isFrame_24 ?_
      refine fm_goto 29 dX9_isFrame_25 (by decide) ?_
      exact fm_zretI dX9_isFrame_29 rfl (by omega) ⟨by omega, rfl⟩
set_option maxRecDepth 20000 in
set_option maxHeartbeats 4000000 in
theorem k_X9_isPlace {ω : fm_O} {σ : fm_Mem} {p : Int} (rp : fm_R p) (hf : fi σ) : fm_Met km ω yX9_isPlace cX9_isPlace 2 (some .boolean) (fm_rm 1) [fm_r ω 0, fm_I p] σ (fm_pI fun z σ' => ((0 ≤ p ∧ p < σ 1 6) ∧ z = 1 ∨ ¬ (0 ≤ p ∧ p < σ 1 6) ∧ z = 0) ∧ σ = σ') := by
  refine fm_start (by decide) rfl (Nat.le_of_ble_eq_true rfl) [some (fm_r ω 0), some (fm_I p)] rfl (fun Γ => ?_)
  have hs := hf.2.1 6 (by omega)
  refine fm_ild1 dX9_isPlace_0 ?_
  refine fm_iconst dX9_isPlace_1 ?_
  refine fm_ald0 dX9_isPlace_2 ?_
  refine gr_8_1 dX9_isPlace_3 fd_X9_7 ?_
  refine fm_bipush (by decide) dX9_isPlace_6 ?_
  refine fm_iald dX9_isPlace_8 ma_1 (by omega) (by omega) ?_
  rw [show (6 : Int).toNat = 6 from rfl]
  refine fm_iconst dX9_isPlace_9 ?_
  refine fm_isub dX9_isPlace_10 ?_
  refine fm_csI dX9_isPlace_11 cl_X9_77 (k_X9_in ⟨by omega, by omega⟩ ⟨by omega, by omega⟩ ⟨by omega, by omega⟩) rfl rfl (by decide) rfl rfl (Nat.le_of_ble_eq_true rfl) (fun z11 s11 q11 => ?_)
  obtain ⟨q11, rfl⟩ := q11
  exact fm_zretI dX9_isPlace_14 rfl (by omega) ⟨by omega, rfl⟩
set_option maxRecDepth 20000 in
set_option maxHeartbeats 4000000 in
theorem k_X9_lays {ω : fm_O} {σ : fm_Mem} {c m v cam : Int} (hc : 0 ≤ c ∧ c < 6) (hn : 0 ≤ σ 1 c.toNat ∧ σ 1 c.toNat < 40) : fm_Met km ω yX9_lays cX9_lays 5 none (fm_rm 0) [fm_r ω 0, fm_I c, fm_I m, fm_I v, fm_I cam] σ (fm_pN fun σ' => σ' = lay σ c m v cam) := by
  refine fm_start (by decide) rfl (Nat.le_of_ble_eq_true rfl) [some (fm_r ω 0), some (fm_I c), some (fm_I m), some (fm_I v), some (fm_I cam)] rfl (fun Γ => ?_)
  refine fm_ald0 dX9_lays_0 ?_
  refine gr_8_2 dX9_lays_1 fd_X9_13 ?_
  refine fm_bipush (by decide) dX9_lays_4 ?_
  refine fm_ild1 dX9_lays_6 ?_
  refine fm_imul dX9_lays_7 ?_
  refine fm_ald0 dX9_lays_8 ?_
  refine gr_8_1 dX9_lays_9 fd_X9_7 ?_
  refine fm_ild1 dX9_lays_12 ?_
  refine fm_iald dX9_lays_13 ma_1 (by omega) (by omega) ?_
  try simp (disch := omega) only [fm_up_ne, fm_up_nj, fm_up_eq]
  refine fm_iadd dX9_lays_14 ?_
  refine fm_ild2 dX9_lays_15 ?_
  refine fm_iast dX9_lays_16 ma_2 (by omega) (by omega) ?_
  refine fm_ald0 dX9_lays_17 ?_
  refine gr_8_3 dX9_lays_18 fd_X9_16 ?_
  refine fm_bipush (by decide) dX9_lays_21 ?_
  refine fm_ild1 dX9_lays_23 ?_
  refine fm_imul dX9_lays_24 ?_
  refine fm_ald0 dX9_lays_25 ?_
  refine gr_8_1 dX9_lays_26 fd_X9_7 ?_
  refine fm_ild1 dX9_lays_29 ?_
  refine fm_iald dX9_lays_30 ma_1 (by omega) (by omega) ?_
  try simp (disch := omega) only [fm_up_ne, fm_up_nj, fm_up_eq]
  refine fm_iadd dX9_lays_31 ?_
  refine fm_ild3 dX9_lays_32 ?_
  refine fm_iast dX9_lays_33 ma_3 (by omega) (by omega) ?_
  refine fm_ald0 dX9_lays_34 ?_
  refine gr_8_4 dX9_lays_35 fd_X9_19 ?_
  refine fm_bipush (by decide) dX9_lays_38 ?_
  refine fm_ild1 dX9_lays_40 ?_
  refine fm_imul dX9_lays_41 ?_
  refine fm_ald0 dX9_lays_42 ?_
  refine gr_8_1 dX9_lays_43 fd_X9_7 ?_
  refine fm_ild1 dX9_lays_46 ?_
  refine fm_iald dX9_lays_47 ma_1 (by omega) (by omega) ?_
  try simp (disch := omega) only [fm_up_ne, fm_up_nj, fm_up_eq]
  refine fm_iadd dX9_lays_48 ?_
  refine fm_ild4 dX9_lays_49 ?_
  refine fm_iast dX9_lays_51 ma_4 (by omega) (by omega) ?_
  refine fm_ald0 dX9_lays_52 ?_
  refine gr_8_1 dX9_lays_53 fd_X9_7 ?_
  refine fm_ild1 dX9_lays_56 ?_
  refine fm_dup2 dX9_lays_57 ?_
  refine fm_iald dX9_lays_58 ma_1 (by omega) (by omega) ?_
  try simp (disch := omega) only [fm_up_ne, fm_up_nj, fm_up_eq]
  refine fm_iconst dX9_lays_59 ?_
  refine fm_iadd dX9_lays_60 ?_
  refine fm_iast dX9_lays_61 ma_1 (by omega) (by omega) ?_
  exact fm_vretN dX9_lays_62 rfl rfl
set_option maxRecDepth 20000 in
set_option maxHeartbeats 4000000 in
theorem k_X9_copy {ω : fm_O} {σ : fm_Mem} (hi : fj σ)  : fm_Met km ω yX9_copy cX9_copy 1 (some .int) (fm_rm 0) [fm_r ω 0] σ (fm_pI fun z σ' => z = (sp_copy σ).1 ∧ sam (sp_copy σ).2 σ') := by
  refine fm_start (by decide) rfl (Nat.le_of_ble_eq_true rfl) [some (fm_r ω 0)] rfl (fun Γ => ?_)
  have hf := hi.fi
  have b0 := hf.1
  refine fm_ald0 dX9_copy_0 ?_
  refine gi_8_0 dX9_copy_1 fd_X9_73 ?_
  try simp (disch := omega) only [fm_up_ne, fm_up_nj, fm_up_eq]
  refine fm_bipush (by decide) dX9_copy_4 ?_
  refine fm_icmp_ne (⟨by omega, by omega⟩) (⟨by omega, by omega⟩) 12 dX9_copy_6 (by decide) (fun h6 => ?_) (fun h6 => ?_)
  · refine fm_ald0 dX9_copy_12 ?_
    refine fm_dupR dX9_copy_13 ?_
    refine gi_8_0 dX9_copy_14 fd_X9_73 ?_
    try simp (disch := omega) only [fm_up_ne, fm_up_nj, fm_up_eq]
    refine fm_iconst dX9_copy_17 ?_
    refine fm_iadd dX9_copy_18 ?_
    refine pf_8_0 dX9_copy_19 fd_X9_73 ?_
    refine fm_ald0 dX9_copy_22 ?_
    refine gi_8_0 dX9_copy_23 fd_X9_73 ?_
    try simp (disch := omega) only [fm_up_ne, fm_up_nj, fm_up_eq]
    refine fm_iconst dX9_copy_26 ?_
    refine fm_isub dX9_copy_27 ?_
    refine fm_iretI dX9_copy_28 rfl ?_
    unfold sp_copy
    first
      | (rw [if_pos (by omega)]; exact ⟨by omega, sam.rfl⟩)
      | (rw [if_neg (by omega)]; exact ⟨by omega, sam.rfl⟩)
  · refine fm_bipush (by decide) dX9_copy_9 ?_
    refine fm_iretI dX9_copy_11 rfl ?_
    unfold sp_copy
    first
      | (rw [if_pos (by omega)]; exact ⟨by omega, sam.rfl⟩)
      | (rw [if_neg (by omega)]; exact ⟨by omega, sam.rfl⟩)
set_option maxRecDepth 20000 in
set_option maxHeartbeats 4000000 in
theorem k_X9_frame {ω : fm_O} {σ : fm_Mem} (hi : fj σ) {c m v cam : Int} (rc : fm_R c) (rm : fm_R m) (rv : fm_R v) (rcam : fm_R cam) : fm_Met km ω yX9_frame cX9_frame 5 (some .int) (fm_rm 2) [fm_r ω 0, fm_I c, fm_I m, fm_I v, fm_I cam] σ (fm_pI fun z σ' => z = (sp_frame σ c m v cam).1 ∧ sam (sp_frame σ c m v cam).2 σ') := by
  refine fm_start (by decide) rfl (Nat.le_of_ble_eq_true rfl) [some (fm_r ω 0), some (fm_I c), some (fm_I m), some (fm_I v), some (fm_I cam)] rfl (fun Γ => ?_)
  have hf := hi.fi
  have b0 := hf.1
  refine fm_ald0 dX9_frame_0 ?_
  refine fm_ild1 dX9_frame_1 ?_
  refine fm_cvI dX9_frame_2 cl_X9_81 (k_X9_isCopy ⟨by omega, by omega⟩ b0) mb_0 rfl rfl (by decide) rfl rfl (Nat.le_of_ble_eq_true rfl) (fun z2 s2 q2 => ?_)
  obtain ⟨q2, rfl⟩ := q2
  refine fm_if_eq (⟨by omega, by omega⟩) 38 dX9_frame_5 (by decide) (fun h5 => ?_) (fun h5 => ?_)
  · refine fm_iconst dX9_frame_38 ?_
    refine fm_iretI dX9_frame_39 rfl ?_
    unfold sp_frame
    first
      | (rw [if_pos (by omega)]; exact ⟨by omega, sam.rfl⟩)
      | (rw [if_neg (by omega), if_pos (by omega)]; exact ⟨by omega, sam.rfl⟩)
      | (rw [if_neg (by omega), if_neg (by omega)]; exact ⟨by unfold lay; rw [fm_up_eq], sam.rfl⟩)
  · refine fm_ild2 dX9_frame_8 ?_
    refine fm_iconst dX9_frame_9 ?_
    refine fm_bipush (by decide) dX9_frame_10 ?_
    refine fm_csI dX9_frame_12 cl_X9_77 (k_X9_in ⟨by omega, by omega⟩ ⟨by omega, by omega⟩ ⟨by omega, by omega⟩) rfl rfl (by decide) rfl rfl (Nat.le_of_ble_eq_true rfl) (fun z12 s12 q12 => ?_)
    obtain ⟨q12, rfl⟩ := q12
    refine fm_if_eq (⟨by omega, by omega⟩) 38 dX9_frame_15 (by decide) (fun h15 => ?_) (fun h15 => ?_)
    · refine fm_iconst dX9_frame_38 ?_
      refine fm_iretI dX9_frame_39 rfl ?_
      unfold sp_frame
      first
        | (rw [if_pos (by omega)]; exact ⟨by omega, sam.rfl⟩)
        | (rw [if_neg (by omega), if_pos (by omega)]; exact ⟨by omega, sam.rfl⟩)
        | (rw [if_neg (by omega), if_neg (by omega)]; exact ⟨by unfold lay; rw [fm_up_eq], sam.rfl⟩)
    · refine fm_ild3 dX9_frame_18 ?_
      refine fm_iconst dX9_frame_19 ?_
      refine fm_bipush (by decide) dX9_frame_20 ?_
      refine fm_csI dX9_frame_22 cl_X9_77 (k_X9_in ⟨by omega, by omega⟩ ⟨by omega, by omega⟩ ⟨by omega, by omega⟩) rfl rfl (by decide) rfl rfl (Nat.le_of_ble_eq_true rfl) (fun z22 s22 q22 => ?_)
      obtain ⟨q22, rfl⟩ := q22
      refine fm_if_eq (⟨by omega, by omega⟩) 38 dX9_frame_25 (by decide) (fun h25 => ?_) (fun h25 => ?_)
      · refine fm_iconst dX9_frame_38 ?_
        refine fm_iretI dX9_frame_39 rfl ?_
        unfold sp_frame
        first
          | (rw [if_pos (by omega)]; exact ⟨by omega, sam.rfl⟩)
          | (rw [if_neg (by omega), if_pos (by omega)]; exact ⟨by omega, sam.rfl⟩)
          | (rw [if_neg (by omega), if_neg (by omega)]; exact ⟨by unfold lay; rw [fm_up_eq], sam.rfl⟩)
      · refine fm_ild4 dX9_frame_28 ?_
        refine fm_iconst dX9_frame_30 ?_
        refine fm_iconst dX9_frame_31 ?_
        refine fm_csI dX9_frame_32 cl_X9_77 (k_X9_in ⟨by omega, by omega⟩ ⟨by omega, by omega⟩ ⟨by omega, by omega⟩) rfl rfl (by decide) rfl rfl (Nat.le_of_ble_eq_true rfl) (fun z32 s32 q32 => ?_)
        obtain ⟨q32, rfl⟩ := q32
        refine fm_if_ne (⟨by omega, by omega⟩) 40 dX9_frame_35 (by decide) (fun h35 => ?_) (fun h35 => ?_)
        · refine fm_ald0 dX9_frame_40 ?_
          refine gr_8_1 dX9_frame_41 fd_X9_7 ?_
          refine fm_ild1 dX9_frame_44 ?_
          have hs := hf.2.1 c.toNat (by omega)
          refine fm_iald dX9_frame_45 ma_1 (by omega) (by omega) ?_
          refine fm_bipush (by decide) dX9_frame_46 ?_
          refine fm_icmp_ne (⟨by omega, by omega⟩) (⟨by omega, by omega⟩) 54 dX9_frame_48 (by decide) (fun h48 => ?_) (fun h48 => ?_)
          · refine fm_ald0 dX9_frame_54 ?_
            refine fm_ild1 dX9_frame_55 ?_
            refine fm_ild2 dX9_frame_56 ?_
            refine fm_ild3 dX9_frame_57 ?_
            refine fm_ild4 dX9_frame_58 ?_
            refine fm_cvN dX9_frame_60 cl_X9_85 (k_X9_lays (by omega) (by omega)) mb_0 rfl rfl (by decide) rfl rfl (Nat.le_of_ble_eq_true rfl) (fun s60 q60 => ?_)
            subst q60
            refine fm_ald0 dX9_frame_63 ?_
            refine gr_8_1 dX9_frame_64 fd_X9_7 ?_
            refine fm_ild1 dX9_frame_67 ?_
            refine fm_iald dX9_frame_68 ma_1 (by omega) (by omega) ?_
            refine fm_iretI dX9_frame_69 rfl ?_
            unfold sp_frame
            first
              | (rw [if_pos (by omega)]; exact ⟨by omega, sam.rfl⟩)
              | (rw [if_neg (by omega), if_pos (by omega)]; exact ⟨by omega, sam.rfl⟩)
              | (rw [if_neg (by omega), if_neg (by omega)]; exact ⟨by unfold lay; rw [fm_up_eq], sam.rfl⟩)
          · refine fm_bipush (by decide) dX9_frame_51 ?_
            refine fm_iretI dX9_frame_53 rfl ?_
            unfold sp_frame
            first
              | (rw [if_pos (by omega)]; exact ⟨by omega, sam.rfl⟩)
              | (rw [if_neg (by omega), if_pos (by omega)]; exact ⟨by omega, sam.rfl⟩)
              | (rw [if_neg (by omega), if_neg (by omega)]; exact ⟨by unfold lay; rw [fm_up_eq], sam.rfl⟩)
        · refine fm_iconst dX9_frame_38 ?_
          refine fm_iretI dX9_frame_39 rfl ?_
          unfold sp_frame
          first
            | (rw [if_pos (by omega)]; exact ⟨by omega, sam.rfl⟩)
            | (rw [if_neg (by omega), if_pos (by omega)]; exact ⟨by omega, sam.rfl⟩)
            | (rw [if_neg (by omega), if_neg (by omega)]; exact ⟨by unfold lay; rw [fm_up_eq], sam.rfl⟩)
set_option maxRecDepth 20000 in
set_option maxHeartbeats 4000000 in
theorem k_X9_at {ω : fm_O} {σ : fm_Mem} (hi : fj σ) {c i t : Int} (rc : fm_R c) (ri : fm_R i) (rt : fm_R t) : fm_Met km ω yX9_at cX9_at 4 (some .int) (fm_rm 3) [fm_r ω 0, fm_I c, fm_I i, fm_I t] σ (fm_pI fun z σ' => z = sp_at σ c i t ∧ sam σ σ') := by
  refine fm_start (by decide) rfl (Nat.le_of_ble_eq_true rfl) [some (fm_r ω 0), some (fm_I c), some (fm_I i), some (fm_I t)] rfl (fun Γ => ?_)
  have hf := hi.fi
  have b0 := hf.1
  refine fm_ald0 dX9_at_0 ?_
  refine fm_ild1 dX9_at_1 ?_
  refine fm_ild2 dX9_at_2 ?_
  refine fm_cvI dX9_at_3 cl_X9_91 (k_X9_isFrame ⟨by omega, by omega⟩ ⟨by omega, by omega⟩ hf) mb_0 rfl rfl (by decide) rfl rfl (Nat.le_of_ble_eq_true rfl) (fun z3 s3 q3 => ?_)
  obtain ⟨q3, rfl⟩ := q3
  refine fm_if_eq (⟨by omega, by omega⟩) 18 dX9_at_6 (by decide) (fun h6 => ?_) (fun h6 => ?_)
  · refine fm_iconst dX9_at_18 ?_
    refine fm_iretI dX9_at_19 rfl ?_
    unfold sp_at
    first
      | (rw [if_pos (by omega)]; exact ⟨by omega, sam.rfl⟩)
      | (rw [if_neg (by omega), if_pos (by omega)]; exact ⟨rfl, sam.rfl⟩)
      | (rw [if_neg (by omega), if_neg (by omega), if_pos (by omega)]; exact ⟨rfl, sam.rfl⟩)
      | (rw [if_neg (by omega), if_neg (by omega), if_neg (by omega)]; exact ⟨rfl, sam.rfl⟩)
  · refine fm_ild3 dX9_at_9 ?_
    refine fm_iconst dX9_at_10 ?_
    refine fm_iconst dX9_at_11 ?_
    refine fm_csI dX9_at_12 cl_X9_77 (k_X9_in ⟨by omega, by omega⟩ ⟨by omega, by omega⟩ ⟨by omega, by omega⟩) rfl rfl (by decide) rfl rfl (Nat.le_of_ble_eq_true rfl) (fun z12 s12 q12 => ?_)
    obtain ⟨q12, rfl⟩ := q12
    refine fm_if_ne (⟨by omega, by omega⟩) 20 dX9_at_15 (by decide) (fun h15 => ?_) (fun h15 => ?_)
    · have hs := hf.2.1 c.toNat (by omega)
      refine fm_ild3 dX9_at_20 ?_
      refine fm_if_ne (⟨by omega, by omega⟩) 38 dX9_at_21 (by decide) (fun h21 => ?_) (fun h21 => ?_)
      · refine fm_ild3 dX9_at_38 ?_
        refine fm_iconst dX9_at_39 ?_
        refine fm_icmp_ne (⟨by omega, by omega⟩) (⟨by omega, by omega⟩) 57 dX9_at_40 (by decide) (fun h40 => ?_) (fun h40 => ?_)
        · refine fm_ald0 dX9_at_57 ?_
          refine gr_8_4 dX9_at_58 fd_X9_19 ?_
          refine fm_bipush (by decide) dX9_at_61 ?_
          refine fm_ild1 dX9_at_63 ?_
          refine fm_imul dX9_at_64 ?_
          refine fm_ild2 dX9_at_65 ?_
          refine fm_iadd dX9_at_66 ?_
          refine fm_iald dX9_at_67 ma_4 (by omega) (by omega) ?_
          refine fm_iretI dX9_at_68 rfl ?_
          unfold sp_at
          first
            | (rw [if_pos (by omega)]; exact ⟨by omega, sam.rfl⟩)
            | (rw [if_neg (by omega), if_pos (by omega)]; exact ⟨rfl, sam.rfl⟩)
            | (rw [if_neg (by omega), if_neg (by omega), if_pos (by omega)]; exact ⟨rfl, sam.rfl⟩)
            | (rw [if_neg (by omega), if_neg (by omega), if_neg (by omega)]; exact ⟨rfl, sam.rfl⟩)
        · refine fm_ald0 dX9_at_43 ?_
          refine gr_8_3 dX9_at_44 fd_X9_16 ?_
          refine fm_bipush (by decide) dX9_at_47 ?_
          refine fm_ild1 dX9_at_49 ?_
          refine fm_imul dX9_at_50 ?_
          refine fm_ild2 dX9_at_51 ?_
          refine fm_iadd dX9_at_52 ?_
          refine fm_iald dX9_at_53 ma_3 (by omega) (by omega) ?_
          refine fm_goto 68 dX9_at_54 (by decide) ?_
          refine fm_iretI dX9_at_68 rfl ?_
          unfold sp_at
          first
            | (rw [if_pos (by omega)]; exact ⟨by omega, sam.rfl⟩)
            | (rw [if_neg (by omega), if_pos (by omega)]; exact ⟨rfl, sam.rfl⟩)
            | (rw [if_neg (by omega), if_neg (by omega), if_pos (by omega)]; exact ⟨rfl, sam.rfl⟩)
            | (rw [if_neg (by omega), if_neg (by omega), if_neg (by omega)]; exact ⟨rfl, sam.rfl⟩)
      · refine fm_ald0 dX9_at_24 ?_
        refine gr_8_2 dX9_at_25 fd_X9_13 ?_
        refine fm_bipush (by decide) dX9_at_28 ?_
        refine fm_ild1 dX9_at_30 ?_
        refine fm_imul dX9_at_31 ?_
        refine fm_ild2 dX9_at_32 ?_
        refine fm_iadd dX9_at_33 ?_
        refine fm_iald dX9_at_34 ma_2 (by omega) (by omega) ?_
        refine fm_goto 68 dX9_at_35 (by decide) ?_
        refine fm_iretI dX9_at_68 rfl ?_
        unfold sp_at
        first
          | (rw [if_pos (by omega)]; exact ⟨by omega, sam.rfl⟩)
          | (rw [if_neg (by omega), if_pos (by omega)]; exact ⟨rfl, sam.rfl⟩)
          | (rw [if_neg (by omega), if_neg (by omega), if_pos (by omega)]; exact ⟨rfl, sam.rfl⟩)
          | (rw [if_neg (by omega), if_neg (by omega), if_neg (by omega)]; exact ⟨rfl, sam.rfl⟩)
    · refine fm_iconst dX9_at_18 ?_
      refine fm_iretI dX9_at_19 rfl ?_
      unfold sp_at
      first
        | (rw [if_pos (by omega)]; exact ⟨by omega, sam.rfl⟩)
        | (rw [if_neg (by omega), if_pos (by omega)]; exact ⟨rfl, sam.rfl⟩)
        | (rw [if_neg (by omega), if_neg (by omega), if_pos (by omega)]; exact ⟨rfl, sam.rfl⟩)
        | (rw [if_neg (by omega), if_neg (by omega), if_neg (by omega)]; exact ⟨rfl, sam.rfl⟩)
def ksh (μ : fm_Mem) (t : Nat) : fm_Mem := fun a b => if (a = 14 ∨ a = 15) ∧ b < t then μ a (b + 1) else μ a b
theorem ksh_o {μ : fm_Mem} {t a b : Nat} (h : (a ≠ 14 ∧ a ≠ 15) ∨ t ≤ b) : ksh μ t a b = μ a b := by unfold ksh; rw [if_neg (by omega)]
theorem ksh_s (μ : fm_Mem) (t : Nat) : fm_up (fm_up (ksh μ t) 14 t (μ 14 (t + 1))) 15 t (μ 15 (t + 1)) = ksh μ (t + 1) := by
  funext a b
  unfold fm_up ksh
  by_cases h1 : a = 15 ∧ b = t
  · rw [if_pos h1, if_pos (by omega), h1.1, h1.2]
  · rw [if_neg h1]
    by_cases h2 : a = 14 ∧ b = t
    · rw [if_pos h2, if_pos (by omega), h2.1, h2.2]
    · rw [if_neg h2]
      by_cases h3 : (a = 14 ∨ a = 15) ∧ b < t
      · rw [if_pos h3, if_pos (by omega)]
      · rw [if_neg h3, if_neg (by omega)]
theorem ksh_30 {μ : fm_Mem} (h : μ 0 16 = 30) : fm_up (ksh μ 29) 0 16 29 = kdrop μ := by
  funext a b
  unfold kdrop fm_up ksh
  rw [if_pos h]
set_option maxRecDepth 20000 in
set_option maxHeartbeats 4000000 in
theorem j_X9_keeps {ω : fm_O} {σ : fm_Mem} {Γ : fm_G} {q v : Int} (hq : 0 ≤ q ∧ q < 240) (hb : 0 ≤ σ 0 16 ∧ σ 0 16 ≤ 30) (o3 : Option Value) : fm_W km ω Γ (cX9_keeps, RX9, fm_rm 0, 4, none) (fm_pN fun σ' => σ' = kp σ q v) (kdrop σ) 61 [some (fm_r ω 0), some (fm_I q), some (fm_I v), o3] [] := by
  obtain ⟨h2, h3⟩ := kdrop_n hb
  unfold kp
  rw [← kdrop_o (μ := σ) (a := 3) (b := q.toNat) (by omega) (by omega) (by omega)]
  generalize kdrop σ = τ at h2 h3 ⊢
  refine fm_ald0 dX9_keeps_61 ?_
  refine gr_8_17 dX9_keeps_62 fd_X9_49 ?_
  refine fm_ald0 dX9_keeps_65 ?_
  refine gi_8_16 dX9_keeps_66 fd_X9_95 ?_
  try simp (disch := omega) only [fm_up_ne, fm_up_nj, fm_up_eq]
  refine fm_ild1 dX9_keeps_69 ?_
  refine fm_iast dX9_keeps_70 ma_14 (by omega) (by omega) ?_
  refine fm_ald0 dX9_keeps_71 ?_
  refine gr_8_18 dX9_keeps_72 fd_X9_52 ?_
  refine fm_ald0 dX9_keeps_75 ?_
  refine gi_8_16 dX9_keeps_76 fd_X9_95 ?_
  try simp (disch := omega) only [fm_up_ne, fm_up_nj, fm_up_eq]
  refine fm_ald0 dX9_keeps_79 ?_
  refine gr_8_3 dX9_keeps_80 fd_X9_16 ?_
  refine fm_ild1 dX9_keeps_83 ?_
  refine fm_iald dX9_keeps_84 ma_3 (by omega) (by omega) ?_
  try simp (disch := omega) only [fm_up_ne, fm_up_nj, fm_up_eq]
  refine fm_iast dX9_keeps_85 ma_15 (by omega) (by omega) ?_
  refine fm_ald0 dX9_keeps_86 ?_
  refine fm_dupR dX9_keeps_87 ?_
  refine gi_8_16 dX9_keeps_88 fd_X9_95 ?_
  try simp (disch := omega) only [fm_up_ne, fm_up_nj, fm_up_eq]
  refine fm_iconst dX9_keeps_91 ?_
  refine fm_iadd dX9_keeps_92 ?_
  refine pf_8_16 dX9_keeps_93 fd_X9_95 ?_
  refine fm_ald0 dX9_keeps_96 ?_
  refine gr_8_3 dX9_keeps_97 fd_X9_16 ?_
  refine fm_ild1 dX9_keeps_100 ?_
  refine fm_ild2 dX9_keeps_101 ?_
  refine fm_iast dX9_keeps_102 ma_3 (by omega) (by omega) ?_
  exact fm_vretN dX9_keeps_103 rfl rfl
set_option maxRecDepth 20000 in
set_option maxHeartbeats 4000000 in
theorem l_X9_keeps {ω : fm_O} {σ : fm_Mem} {Γ : fm_G} {q v : Int} (hq : 0 ≤ q ∧ q < 240) (hb : σ 0 16 = 30) : ∀ (d : Nat) (z : Int), 1 ≤ z → z + d = 30 → fm_W km ω Γ (cX9_keeps, RX9, fm_rm 0, 4, none) (fm_pN fun σ' => σ' = kp σ q v) (ksh σ (z - 1).toNat) 11 [some (fm_r ω 0), some (fm_I q), some (fm_I v), some (fm_I z)] [] := by
  intro d
  induction d with
  | zero =>
    intro z h0 hz
    refine fm_ild3 dX9_keeps_11 ?_
    refine fm_bipush (by decide) dX9_keeps_12 ?_
    refine fm_icmp_ge (⟨by omega, by omega⟩) (⟨by omega, by omega⟩) 51 dX9_keeps_14 (by decide) (fun h14 => ?_) (fun h14 => ?_)
    · refine fm_ald0 dX9_keeps_51 ?_
      refine fm_dupR dX9_keeps_52 ?_
      refine gi_8_16 dX9_keeps_53 fd_X9_95 ?_
      simp (disch := omega) only [ksh_o]
      rw [hb, show (z - 1).toNat = 29 by omega]
      refine fm_iconst dX9_keeps_56 ?_
      refine fm_isub dX9_keeps_57 ?_
      refine pf_8_16 dX9_keeps_58 fd_X9_95 ?_
      rw [show (30 : Int) - 1 = 29 from rfl, ksh_30 hb]
      exact j_X9_keeps hq (by omega) _
    · exfalso; omega
  | succ d ih =>
    intro z h0 hz
    have ez : z.toNat = (z - 1).toNat + 1 := by omega
    refine fm_ild3 dX9_keeps_11 ?_
    refine fm_bipush (by decide) dX9_keeps_12 ?_
    refine fm_icmp_ge (⟨by omega, by omega⟩) (⟨by omega, by omega⟩) 51 dX9_keeps_14 (by decide) (fun h14 => ?_) (fun h14 => ?_)
    · exfalso; omega
    · refine fm_ald0 dX9_keeps_17 ?_
      refine gr_8_17 dX9_keeps_18 fd_X9_49 ?_
      refine fm_ild3 dX9_keeps_21 ?_
      refine fm_iconst dX9_keeps_22 ?_
      refine fm_isub dX9_keeps_23 ?_
      refine fm_ald0 dX9_keeps_24 ?_
      refine gr_8_17 dX9_keeps_25 fd_X9_49 ?_
      refine fm_ild3 dX9_keeps_28 ?_
      refine fm_iald dX9_keeps_29 ma_14 (by omega) (by omega) ?_
      simp (disch := omega) only [ksh_o]
      refine fm_iast dX9_keeps_30 ma_14 (by omega) (by omega) ?_
      refine fm_ald0 dX9_keeps_31 ?_
      refine gr_8_18 dX9_keeps_32 fd_X9_52 ?_
      refine fm_ild3 dX9_keeps_35 ?_
      refine fm_iconst dX9_keeps_36 ?_
      refine fm_isub dX9_keeps_37 ?_
      refine fm_ald0 dX9_keeps_38 ?_
      refine gr_8_18 dX9_keeps_39 fd_X9_52 ?_
      refine fm_ild3 dX9_keeps_42 ?_
      refine fm_iald dX9_keeps_43 ma_15 (by omega) (by omega) ?_
      simp (disch := omega) only [fm_up_ne, ksh_o]
      refine fm_iast dX9_keeps_44 ma_15 (by omega) (by omega) ?_
      refine fm_inc3 rfl dX9_keeps_45 ?_
      refine fm_goto 11 dX9_keeps_48 (by decide) ?_
      rw [ez, ksh_s, ← ez, show z.toNat = (z + 1 - 1).toNat by omega]
      exact ih (z + 1) (by omega) (by omega)
set_option maxRecDepth 20000 in
set_option maxHeartbeats 4000000 in
theorem k_X9_keeps {ω : fm_O} {σ : fm_Mem} {q v : Int} (hq : 0 ≤ q ∧ q < 240) (hb : 0 ≤ σ 0 16 ∧ σ 0 16 ≤ 30) : fm_Met km ω yX9_keeps cX9_keeps 4 none (fm_rm 0) [fm_r ω 0, fm_I q, fm_I v] σ (fm_pN fun σ' => σ' = kp σ q v) := by
  refine fm_start (by decide) rfl (Nat.le_of_ble_eq_true rfl) [some (fm_r ω 0), some (fm_I q), some (fm_I v), none] rfl (fun Γ => ?_)
  refine fm_ald0 dX9_keeps_0 ?_
  refine gi_8_16 dX9_keeps_1 fd_X9_95 ?_
  refine fm_bipush (by decide) dX9_keeps_4 ?_
  refine fm_icmp_ne (⟨by omega, by omega⟩) (⟨by omega, by omega⟩) 61 dX9_keeps_6 (by decide) (fun h6 => ?_) (fun h6 => ?_)
  · have hJ := j_X9_keeps (ω := ω) (Γ := Γ) (v := v) hq hb none
    unfold kdrop at hJ
    rw [if_neg (by omega)] at hJ
    exact hJ
  · refine fm_iconst dX9_keeps_9 ?_
    refine fm_ist3 rfl dX9_keeps_10 ?_
    have hJ := l_X9_keeps (ω := ω) (Γ := Γ) (v := v) hq (by omega) 29 1 (by omega) (by omega)
    rw [show ksh σ ((1 : Int) - 1).toNat = σ by funext a b; simp [ksh]] at hJ
    exact hJ
set_option maxRecDepth 20000 in
set_option maxHeartbeats 4000000 in
theorem k_X9_wear {ω : fm_O} {σ : fm_Mem} (hi : fj σ) {c i v : Int} (rc : fm_R c) (ri : fm_R i) (rv : fm_R v) : fm_Met km ω yX9_wear cX9_wear 5 (some .int) (fm_rm 3) [fm_r ω 0, fm_I c, fm_I i, fm_I v] σ (fm_pI fun z σ' => z = (sp_wear σ c i v).1 ∧ sam (sp_wear σ c i v).2 σ') := by
  refine fm_start (by decide) rfl (Nat.le_of_ble_eq_true rfl) [some (fm_r ω 0), some (fm_I c), some (fm_I i), some (fm_I v), none] rfl (fun Γ => ?_)
  have hf := hi.fi
  have b0 := hf.1
  refine fm_ald0 dX9_wear_0 ?_
  refine fm_ild1 dX9_wear_1 ?_
  refine fm_ild2 dX9_wear_2 ?_
  refine fm_cvI dX9_wear_3 cl_X9_91 (k_X9_isFrame ⟨by omega, by omega⟩ ⟨by omega, by omega⟩ hf) mb_0 rfl rfl (by decide) rfl rfl (Nat.le_of_ble_eq_true rfl) (fun z3 s3 q3 => ?_)
  obtain ⟨q3, rfl⟩ := q3
  refine fm_if_eq (⟨by omega, by omega⟩) 19 dX9_wear_6 (by decide) (fun h6 => ?_) (fun h6 => ?_)
  · refine fm_iconst dX9_wear_19 ?_
    refine fm_iretI dX9_wear_20 rfl ?_
    unfold sp_wear
    first
      | (rw [if_pos (by omega)]; exact ⟨by omega, sam.rfl⟩)
      | (rw [if_neg (by omega)]; exact ⟨rfl, sam.rfl⟩)
  · refine fm_ild3 dX9_wear_9 ?_
    refine fm_iconst dX9_wear_10 ?_
    refine fm_bipush (by decide) dX9_wear_11 ?_
    refine fm_csI dX9_wear_13 cl_X9_77 (k_X9_in ⟨by omega, by omega⟩ ⟨by omega, by omega⟩ ⟨by omega, by omega⟩) rfl rfl (by decide) rfl rfl (Nat.le_of_ble_eq_true rfl) (fun z13 s13 q13 => ?_)
    obtain ⟨q13, rfl⟩ := q13
    refine fm_if_ne (⟨by omega, by omega⟩) 21 dX9_wear_16 (by decide) (fun h16 => ?_) (fun h16 => ?_)
    · have hs := hf.2.1 c.toNat (by omega)
      have bt := hf.2.2.2.2.2.2.2.2.2.2.2.2.2.1
      refine fm_ald0 dX9_wear_21 ?_
      refine gr_8_3 dX9_wear_22 fd_X9_16 ?_
      refine fm_bipush (by decide) dX9_wear_25 ?_
      refine fm_ild1 dX9_wear_27 ?_
      refine fm_imul dX9_wear_28 ?_
      refine fm_ild2 dX9_wear_29 ?_
      refine fm_iadd dX9_wear_30 ?_
      refine fm_iald dX9_wear_31 ma_3 (by omega) (by omega) ?_
      refine fm_ist4 rfl dX9_wear_32 ?_
      refine fm_ald0 dX9_wear_34 ?_
      refine fm_bipush (by decide) dX9_wear_35 ?_
      refine fm_ild1 dX9_wear_37 ?_
      refine fm_imul dX9_wear_38 ?_
      refine fm_ild2 dX9_wear_39 ?_
      refine fm_iadd dX9_wear_40 ?_
      refine fm_ild3 dX9_wear_41 ?_
      refine fm_cvN dX9_wear_42 cl_X9_98 (k_X9_keeps (by omega) (by omega)) mb_0 rfl rfl (by decide) rfl rfl (Nat.le_of_ble_eq_true rfl) (fun s42 q42 => ?_)
      subst q42
      refine fm_ild4 dX9_wear_45 ?_
      refine fm_iretI dX9_wear_47 rfl ?_
      unfold sp_wear
      first
        | (rw [if_pos (by omega)]; exact ⟨by omega, sam.rfl⟩)
        | (rw [if_neg (by omega)]; exact ⟨rfl, sam.rfl⟩)
    · refine fm_iconst dX9_wear_19 ?_
      refine fm_iretI dX9_wear_20 rfl ?_
      unfold sp_wear
      first
        | (rw [if_pos (by omega)]; exact ⟨by omega, sam.rfl⟩)
        | (rw [if_neg (by omega)]; exact ⟨rfl, sam.rfl⟩)
set_option maxRecDepth 20000 in
set_option maxHeartbeats 4000000 in
theorem k_X9_place {ω : fm_O} {σ : fm_Mem} (hi : fj σ) {m s : Int} (rm : fm_R m) (rs : fm_R s) : fm_Met km ω yX9_place cX9_place 3 (some .int) (fm_rm 1) [fm_r ω 0, fm_I m, fm_I s] σ (fm_pI fun z σ' => z = (sp_place σ m s).1 ∧ sam (sp_place σ m s).2 σ') := by
  refine fm_start (by decide) rfl (Nat.le_of_ble_eq_true rfl) [some (fm_r ω 0), some (fm_I m), some (fm_I s)] rfl (fun Γ => ?_)
  have hf := hi.fi
  have b0 := hf.1
  have b6 := hf.2.1 6 (by omega)
  refine fm_ild1 dX9_place_0 ?_
  refine fm_iconst dX9_place_1 ?_
  refine fm_bipush (by decide) dX9_place_2 ?_
  refine fm_csI dX9_place_4 cl_X9_77 (k_X9_in ⟨by omega, by omega⟩ ⟨by omega, by omega⟩ ⟨by omega, by omega⟩) rfl rfl (by decide) rfl rfl (Nat.le_of_ble_eq_true rfl) (fun z4 s4 q4 => ?_)
  obtain ⟨q4, rfl⟩ := q4
  refine fm_if_eq (⟨by omega, by omega⟩) 19 dX9_place_7 (by decide) (fun h7 => ?_) (fun h7 => ?_)
  · refine fm_iconst dX9_place_19 ?_
    refine fm_iretI dX9_place_20 rfl ?_
    unfold sp_place
    first
      | (rw [if_pos (by omega)]; exact ⟨by omega, sam.rfl⟩)
      | (rw [if_neg (by omega), if_pos (by omega)]; exact ⟨by omega, sam.rfl⟩)
      | (rw [if_neg (by omega), if_neg (by omega)]; exact ⟨rfl, sam.rfl⟩)
  · refine fm_ild2 dX9_place_10 ?_
    refine fm_iconst dX9_place_11 ?_
    refine fm_iconst dX9_place_12 ?_
    refine fm_csI dX9_place_13 cl_X9_77 (k_X9_in ⟨by omega, by omega⟩ ⟨by omega, by omega⟩ ⟨by omega, by omega⟩) rfl rfl (by decide) rfl rfl (Nat.le_of_ble_eq_true rfl) (fun z13 s13 q13 => ?_)
    obtain ⟨q13, rfl⟩ := q13
    refine fm_if_ne (⟨by omega, by omega⟩) 21 dX9_place_16 (by decide) (fun h16 => ?_) (fun h16 => ?_)
    · refine fm_ald0 dX9_place_21 ?_
      refine gr_8_1 dX9_place_22 fd_X9_7 ?_
      refine fm_bipush (by decide) dX9_place_25 ?_
      refine fm_iald dX9_place_27 ma_1 (by omega) (by omega) ?_
      try simp (disch := omega) only [fm_up_ne, fm_up_nj, fm_up_eq]
      rw [show (6 : Int).toNat = 6 from rfl]
      refine fm_bipush (by decide) dX9_place_28 ?_
      refine fm_icmp_ne (⟨by omega, by omega⟩) (⟨by omega, by omega⟩) 36 dX9_place_30 (by decide) (fun h30 => ?_) (fun h30 => ?_)
      · refine fm_ald0 dX9_place_36 ?_
        refine gr_8_2 dX9_place_37 fd_X9_13 ?_
        refine fm_sipush (by decide) dX9_place_40 ?_
        refine fm_ald0 dX9_place_43 ?_
        refine gr_8_1 dX9_place_44 fd_X9_7 ?_
        refine fm_bipush (by decide) dX9_place_47 ?_
        refine fm_iald dX9_place_49 ma_1 (by omega) (by omega) ?_
        try simp (disch := omega) only [fm_up_ne, fm_up_nj, fm_up_eq]
        rw [show (6 : Int).toNat = 6 from rfl]
        refine fm_iadd dX9_place_50 ?_
        refine fm_ild1 dX9_place_51 ?_
        refine fm_iast dX9_place_52 ma_2 (by omega) (by omega) ?_
        refine fm_ald0 dX9_place_53 ?_
        refine gr_8_5 dX9_place_54 fd_X9_22 ?_
        refine fm_ald0 dX9_place_57 ?_
        refine gr_8_1 dX9_place_58 fd_X9_7 ?_
        refine fm_bipush (by decide) dX9_place_61 ?_
        refine fm_iald dX9_place_63 ma_1 (by omega) (by omega) ?_
        try simp (disch := omega) only [fm_up_ne, fm_up_nj, fm_up_eq]
        try rw [show (6 : Int).toNat = 6 from rfl]
        refine fm_ild2 dX9_place_64 ?_
        refine fm_iast dX9_place_65 ma_5 (by omega) (by omega) ?_
        refine fm_ald0 dX9_place_66 ?_
        refine gr_8_1 dX9_place_67 fd_X9_7 ?_
        refine fm_bipush (by decide) dX9_place_70 ?_
        refine fm_dup2 dX9_place_72 ?_
        refine fm_iald dX9_place_73 ma_1 (by omega) (by omega) ?_
        try simp (disch := omega) only [fm_up_ne, fm_up_nj, fm_up_eq]
        try rw [show (6 : Int).toNat = 6 from rfl]
        refine fm_iconst dX9_place_74 ?_
        refine fm_iadd dX9_place_75 ?_
        refine fm_iast dX9_place_76 ma_1 (by omega) (by omega) ?_
        try rw [show (6 : Int).toNat = 6 from rfl]
        refine fm_ald0 dX9_place_77 ?_
        refine gr_8_1 dX9_place_78 fd_X9_7 ?_
        refine fm_bipush (by decide) dX9_place_81 ?_
        refine fm_iald dX9_place_83 ma_1 (by omega) (by omega) ?_
        try simp (disch := omega) only [fm_up_ne, fm_up_nj, fm_up_eq]
        refine fm_iretI dX9_place_84 rfl ?_
        unfold sp_place
        first
          | (rw [if_pos (by omega)]; exact ⟨by omega, sam.rfl⟩)
          | (rw [if_neg (by omega), if_pos (by omega)]; exact ⟨by omega, sam.rfl⟩)
          | (rw [if_neg (by omega), if_neg (by omega)]; exact ⟨rfl, sam.rfl⟩)
      · refine fm_bipush (by decide) dX9_place_33 ?_
        refine fm_iretI dX9_place_35 rfl ?_
        unfold sp_place
        first
          | (rw [if_pos (by omega)]; exact ⟨by omega, sam.rfl⟩)
          | (rw [if_neg (by omega), if_pos (by omega)]; exact ⟨by omega, sam.rfl⟩)
          | (rw [if_neg (by omega), if_neg (by omega)]; exact ⟨rfl, sam.rfl⟩)
    · refine fm_iconst dX9_place_19 ?_
      refine fm_iretI dX9_place_20 rfl ?_
      unfold sp_place
      first
        | (rw [if_pos (by omega)]; exact ⟨by omega, sam.rfl⟩)
        | (rw [if_neg (by omega), if_pos (by omega)]; exact ⟨by omega, sam.rfl⟩)
        | (rw [if_neg (by omega), if_neg (by omega)]; exact ⟨rfl, sam.rfl⟩)
set_option maxRecDepth 20000 in
set_option maxHeartbeats 4000000 in
theorem k_X9_noScript {ω : fm_O} {σ : fm_Mem} (hi : fj σ)  : fm_Met km ω yX9_noScript cX9_noScript 2 (some .int) (fm_rm 0) [fm_r ω 0] σ (fm_pI fun z σ' => z = (sp_noScript σ).1 ∧ sam (sp_noScript σ).2 σ') := by
  refine fm_start (by decide) rfl (Nat.le_of_ble_eq_true rfl) [some (fm_r ω 0), none] rfl (fun Γ => ?_)
  have hf := hi.fi
  have b0 := hf.1
  refine fm_ald0 dX9_noScript_0 ?_
  refine gr_8_1 dX9_noScript_1 fd_X9_7 ?_
  refine fm_bipush (by decide) dX9_noScript_4 ?_
  refine fm_iald dX9_noScript_6 ma_1 (by omega) (by omega) ?_
  refine fm_ist1 rfl dX9_noScript_7 ?_
  refine fm_ald0 dX9_noScript_8 ?_
  refine gr_8_1 dX9_noScript_9 fd_X9_7 ?_
  refine fm_bipush (by decide) dX9_noScript_12 ?_
  refine fm_iconst dX9_noScript_14 ?_
  refine fm_iast dX9_noScript_15 ma_1 (by omega) (by omega) ?_
  refine fm_ild1 dX9_noScript_16 ?_
  exact fm_iretI dX9_noScript_17 rfl ⟨rfl, sam.rfl⟩
set_option maxRecDepth 20000 in
set_option maxHeartbeats 4000000 in
theorem k_X9_rule {ω : fm_O} {σ : fm_Mem} (hi : fj σ) {t v : Int} (rt : fm_R t) (rv : fm_R v) : fm_Met km ω yX9_rule cX9_rule 4 (some .int) (fm_rm 1) [fm_r ω 0, fm_I t, fm_I v] σ (fm_pI fun z σ' => z = (sp_rule σ t v).1 ∧ sam (sp_rule σ t v).2 σ') := by
  refine fm_start (by decide) rfl (Nat.le_of_ble_eq_true rfl) [some (fm_r ω 0), some (fm_I t), some (fm_I v), none] rfl (fun Γ => ?_)
  have hf := hi.fi
  have b0 := hf.1
  refine fm_ild1 dX9_rule_0 ?_
  refine fm_iconst dX9_rule_1 ?_
  refine fm_iconst dX9_rule_2 ?_
  refine fm_csI dX9_rule_3 cl_X9_77 (k_X9_in ⟨by omega, by omega⟩ ⟨by omega, by omega⟩ ⟨by omega, by omega⟩) rfl rfl (by decide) rfl rfl (Nat.le_of_ble_eq_true rfl) (fun z3 s3 q3 => ?_)
  obtain ⟨q3, rfl⟩ := q3
  refine fm_if_eq (⟨by omega, by omega⟩) 27 dX9_rule_6 (by decide) (fun h6 => ?_) (fun h6 => ?_)
  · refine fm_iconst dX9_rule_27 ?_
    refine fm_iretI dX9_rule_28 rfl ?_
    unfold sp_rule
    first
      | (rw [if_pos (by split <;> omega)]; exact ⟨by omega, sam.rfl⟩)
      | (rw [if_neg (by split <;> omega)]; exact ⟨rfl, sam.rfl⟩)
  · refine fm_ild2 dX9_rule_9 ?_
    refine fm_iconst dX9_rule_10 ?_
    refine fm_ild1 dX9_rule_11 ?_
    refine fm_if_ne (⟨by omega, by omega⟩) 19 dX9_rule_12 (by decide) (fun h12 => ?_) (fun h12 => ?_)
    · refine fm_bipush (by decide) dX9_rule_19 ?_
      refine fm_csI dX9_rule_21 cl_X9_77 (k_X9_in ⟨by omega, by omega⟩ ⟨by omega, by omega⟩ ⟨by omega, by omega⟩) rfl rfl (by decide) rfl rfl (Nat.le_of_ble_eq_true rfl) (fun z21 s21 q21 => ?_)
      obtain ⟨q21, rfl⟩ := q21
      refine fm_if_ne (⟨by omega, by omega⟩) 29 dX9_rule_24 (by decide) (fun h24 => ?_) (fun h24 => ?_)
      · refine fm_ald0 dX9_rule_29 ?_
        refine gr_8_6 dX9_rule_30 fd_X9_25 ?_
        refine fm_ild1 dX9_rule_33 ?_
        refine fm_iald dX9_rule_34 ma_6 (by omega) (by omega) ?_
        refine fm_ist3 rfl dX9_rule_35 ?_
        refine fm_ald0 dX9_rule_36 ?_
        refine gr_8_6 dX9_rule_37 fd_X9_25 ?_
        refine fm_ild1 dX9_rule_40 ?_
        refine fm_ild2 dX9_rule_41 ?_
        refine fm_iast dX9_rule_42 ma_6 (by omega) (by omega) ?_
        refine fm_ild3 dX9_rule_43 ?_
        refine fm_iretI dX9_rule_44 rfl ?_
        unfold sp_rule
        first
          | (rw [if_pos (by split <;> omega)]; exact ⟨by omega, sam.rfl⟩)
          | (rw [if_neg (by split <;> omega)]; exact ⟨rfl, sam.rfl⟩)
      · refine fm_iconst dX9_rule_27 ?_
        refine fm_iretI dX9_rule_28 rfl ?_
        unfold sp_rule
        first
          | (rw [if_pos (by split <;> omega)]; exact ⟨by omega, sam.rfl⟩)
          | (rw [if_neg (by split <;> omega)]; exact ⟨rfl, sam.rfl⟩)
    · refine fm_iconst dX9_rule_15 ?_
      refine fm_goto 21 dX9_rule_16 (by decide) ?_
      refine fm_csI dX9_rule_21 cl_X9_77 (k_X9_in ⟨by omega, by omega⟩ ⟨by omega, by omega⟩ ⟨by omega, by omega⟩) rfl rfl (by decide) rfl rfl (Nat.le_of_ble_eq_true rfl) (fun z21 s21 q21 => ?_)
      obtain ⟨q21, rfl⟩ := q21
      refine fm_if_ne (⟨by omega, by omega⟩) 29 dX9_rule_24 (by decide) (fun h24 => ?_) (fun h24 => ?_)
      · refine fm_ald0 dX9_rule_29 ?_
        refine gr_8_6 dX9_rule_30 fd_X9_25 ?_
        refine fm_ild1 dX9_rule_33 ?_
        refine fm_iald dX9_rule_34 ma_6 (by omega) (by omega) ?_
        refine fm_ist3 rfl dX9_rule_35 ?_
        refine fm_ald0 dX9_rule_36 ?_
        refine gr_8_6 dX9_rule_37 fd_X9_25 ?_
        refine fm_ild1 dX9_rule_40 ?_
        refine fm_ild2 dX9_rule_41 ?_
        refine fm_iast dX9_rule_42 ma_6 (by omega) (by omega) ?_
        refine fm_ild3 dX9_rule_43 ?_
        refine fm_iretI dX9_rule_44 rfl ?_
        unfold sp_rule
        first
          | (rw [if_pos (by split <;> omega)]; exact ⟨by omega, sam.rfl⟩)
          | (rw [if_neg (by split <;> omega)]; exact ⟨rfl, sam.rfl⟩)
      · refine fm_iconst dX9_rule_27 ?_
        refine fm_iretI dX9_rule_28 rfl ?_
        unfold sp_rule
        first
          | (rw [if_pos (by split <;> omega)]; exact ⟨by omega, sam.rfl⟩)
          | (rw [if_neg (by split <;> omega)]; exact ⟨rfl, sam.rfl⟩)
set_option maxRecDepth 20000 in
set_option maxHeartbeats 4000000 in
theorem k_X9_note {ω : fm_O} {σ : fm_Mem} (hi : fj σ) {c a b t : Int} (rc : fm_R c) (ra : fm_R a) (rb : fm_R b) (rt : fm_R t) : fm_Met km ω yX9_note cX9_note 5 (some .int) (fm_rm 3) [fm_r ω 0, fm_I c, fm_I a, fm_I b, fm_I t] σ (fm_pI fun z σ' => z = (sp_note σ c a b t).1 ∧ sam (sp_note σ c a b t).2 σ') := by
  refine fm_start (by decide) rfl (Nat.le_of_ble_eq_true rfl) [some (fm_r ω 0), some (fm_I c), some (fm_I a), some (fm_I b), some (fm_I t)] rfl (fun Γ => ?_)
  have hf := hi.fi
  have b0 := hf.1
  have b7 := hf.2.2.2.2.2.2.2.2.2.1
  refine fm_ald0 dX9_note_0 ?_
  refine fm_ild1 dX9_note_1 ?_
  refine fm_ild2 dX9_note_2 ?_
  refine fm_cvI dX9_note_3 cl_X9_91 (k_X9_isFrame ⟨by omega, by omega⟩ ⟨by omega, by omega⟩ hf) mb_0 rfl rfl (by decide) rfl rfl (Nat.le_of_ble_eq_true rfl) (fun z3 s3 q3 => ?_)
  obtain ⟨q3, rfl⟩ := q3
  refine fm_if_eq (⟨by omega, by omega⟩) 34 dX9_note_6 (by decide) (fun h6 => ?_) (fun h6 => ?_)
  · refine fm_iconst dX9_note_34 ?_
    refine fm_iretI dX9_note_35 rfl ?_
    unfold sp_note
    first
      | (rw [if_pos (by omega)]; exact ⟨by omega, sam.rfl⟩)
      | (rw [if_neg (by omega), if_pos (by omega)]; exact ⟨by omega, sam.rfl⟩)
      | (rw [if_neg (by omega), if_neg (by omega)]; exact ⟨rfl, sam.rfl⟩)
  · refine fm_ald0 dX9_note_9 ?_
    refine fm_ild1 dX9_note_10 ?_
    refine fm_ild3 dX9_note_11 ?_
    refine fm_cvI dX9_note_12 cl_X9_91 (k_X9_isFrame ⟨by omega, by omega⟩ ⟨by omega, by omega⟩ hf) mb_0 rfl rfl (by decide) rfl rfl (Nat.le_of_ble_eq_true rfl) (fun z12 s12 q12 => ?_)
    obtain ⟨q12, rfl⟩ := q12
    refine fm_if_eq (⟨by omega, by omega⟩) 34 dX9_note_15 (by decide) (fun h15 => ?_) (fun h15 => ?_)
    · refine fm_iconst dX9_note_34 ?_
      refine fm_iretI dX9_note_35 rfl ?_
      unfold sp_note
      first
        | (rw [if_pos (by omega)]; exact ⟨by omega, sam.rfl⟩)
        | (rw [if_neg (by omega), if_pos (by omega)]; exact ⟨by omega, sam.rfl⟩)
        | (rw [if_neg (by omega), if_neg (by omega)]; exact ⟨rfl, sam.rfl⟩)
    · refine fm_ild2 dX9_note_18 ?_
      refine fm_ild3 dX9_note_19 ?_
      refine fm_icmp_gt (⟨by omega, by omega⟩) (⟨by omega, by omega⟩) 34 dX9_note_20 (by decide) (fun h20 => ?_) (fun h20 => ?_)
      · refine fm_iconst dX9_note_34 ?_
        refine fm_iretI dX9_note_35 rfl ?_
        unfold sp_note
        first
          | (rw [if_pos (by omega)]; exact ⟨by omega, sam.rfl⟩)
          | (rw [if_neg (by omega), if_pos (by omega)]; exact ⟨by omega, sam.rfl⟩)
          | (rw [if_neg (by omega), if_neg (by omega)]; exact ⟨rfl, sam.rfl⟩)
      · refine fm_ild4 dX9_note_23 ?_
        refine fm_iconst dX9_note_25 ?_
        refine fm_bipush (by decide) dX9_note_26 ?_
        refine fm_csI dX9_note_28 cl_X9_77 (k_X9_in ⟨by omega, by omega⟩ ⟨by omega, by omega⟩ ⟨by omega, by omega⟩) rfl rfl (by decide) rfl rfl (Nat.le_of_ble_eq_true rfl) (fun z28 s28 q28 => ?_)
        obtain ⟨q28, rfl⟩ := q28
        refine fm_if_ne (⟨by omega, by omega⟩) 36 dX9_note_31 (by decide) (fun h31 => ?_) (fun h31 => ?_)
        · refine fm_ald0 dX9_note_36 ?_
          refine gi_8_7 dX9_note_37 fd_X9_140 ?_
          try simp (disch := omega) only [fm_up_ne, fm_up_nj, fm_up_eq]
          refine fm_bipush (by decide) dX9_note_40 ?_
          refine fm_icmp_ne (⟨by omega, by omega⟩) (⟨by omega, by omega⟩) 48 dX9_note_42 (by decide) (fun h42 => ?_) (fun h42 => ?_)
          · refine fm_ald0 dX9_note_48 ?_
            refine gr_8_8 dX9_note_49 fd_X9_28 ?_
            refine fm_ald0 dX9_note_52 ?_
            refine gi_8_7 dX9_note_53 fd_X9_140 ?_
            try simp (disch := omega) only [fm_up_ne, fm_up_nj, fm_up_eq]
            refine fm_ild1 dX9_note_56 ?_
            refine fm_iast dX9_note_57 ma_7 (by omega) (by omega) ?_
            refine fm_ald0 dX9_note_58 ?_
            refine gr_8_9 dX9_note_59 fd_X9_31 ?_
            refine fm_ald0 dX9_note_62 ?_
            refine gi_8_7 dX9_note_63 fd_X9_140 ?_
            try simp (disch := omega) only [fm_up_ne, fm_up_nj, fm_up_eq]
            refine fm_ild2 dX9_note_66 ?_
            refine fm_iast dX9_note_67 ma_8 (by omega) (by omega) ?_
            refine fm_ald0 dX9_note_68 ?_
            refine gr_8_10 dX9_note_69 fd_X9_34 ?_
            refine fm_ald0 dX9_note_72 ?_
            refine gi_8_7 dX9_note_73 fd_X9_140 ?_
            try simp (disch := omega) only [fm_up_ne, fm_up_nj, fm_up_eq]
            refine fm_ild3 dX9_note_76 ?_
            refine fm_iast dX9_note_77 ma_9 (by omega) (by omega) ?_
            refine fm_ald0 dX9_note_78 ?_
            refine gr_8_11 dX9_note_79 fd_X9_37 ?_
            refine fm_ald0 dX9_note_82 ?_
            refine gi_8_7 dX9_note_83 fd_X9_140 ?_
            try simp (disch := omega) only [fm_up_ne, fm_up_nj, fm_up_eq]
            refine fm_ild4 dX9_note_86 ?_
            refine fm_iast dX9_note_88 ma_10 (by omega) (by omega) ?_
            refine fm_ald0 dX9_note_89 ?_
            refine fm_dupR dX9_note_90 ?_
            refine gi_8_7 dX9_note_91 fd_X9_140 ?_
            try simp (disch := omega) only [fm_up_ne, fm_up_nj, fm_up_eq]
            refine fm_iconst dX9_note_94 ?_
            refine fm_iadd dX9_note_95 ?_
            refine pf_8_7 dX9_note_96 fd_X9_140 ?_
            refine fm_ald0 dX9_note_99 ?_
            refine gi_8_7 dX9_note_100 fd_X9_140 ?_
            try simp (disch := omega) only [fm_up_ne, fm_up_nj, fm_up_eq]
            refine fm_iretI dX9_note_103 rfl ?_
            unfold sp_note
            first
              | (rw [if_pos (by omega)]; exact ⟨by omega, sam.rfl⟩)
              | (rw [if_neg (by omega), if_pos (by omega)]; exact ⟨by omega, sam.rfl⟩)
              | (rw [if_neg (by omega), if_neg (by omega)]; exact ⟨rfl, sam.rfl⟩)
          · refine fm_bipush (by decide) dX9_note_45 ?_
            refine fm_iretI dX9_note_47 rfl ?_
            unfold sp_note
            first
              | (rw [if_pos (by omega)]; exact ⟨by omega, sam.rfl⟩)
              | (rw [if_neg (by omega), if_pos (by omega)]; exact ⟨by omega, sam.rfl⟩)
              | (rw [if_neg (by omega), if_neg (by omega)]; exact ⟨rfl, sam.rfl⟩)
        · refine fm_iconst dX9_note_34 ?_
          refine fm_iretI dX9_note_35 rfl ?_
          unfold sp_note
          first
            | (rw [if_pos (by omega)]; exact ⟨by omega, sam.rfl⟩)
            | (rw [if_neg (by omega), if_pos (by omega)]; exact ⟨by omega, sam.rfl⟩)
            | (rw [if_neg (by omega), if_neg (by omega)]; exact ⟨rfl, sam.rfl⟩)
set_option maxRecDepth 20000 in
set_option maxHeartbeats 4000000 in
theorem k_X9_cue {ω : fm_O} {σ : fm_Mem} (hi : fj σ) {a b v : Int} (ra : fm_R a) (rb : fm_R b) (rv : fm_R v) : fm_Met km ω yX9_cue cX9_cue 4 (some .int) (fm_rm 1) [fm_r ω 0, fm_I a, fm_I b, fm_I v] σ (fm_pI fun z σ' => z = (sp_cue σ a b v).1 ∧ sam (sp_cue σ a b v).2 σ') := by
  refine fm_start (by decide) rfl (Nat.le_of_ble_eq_true rfl) [some (fm_r ω 0), some (fm_I a), some (fm_I b), some (fm_I v)] rfl (fun Γ => ?_)
  have hf := hi.fi
  have b0 := hf.1
  have b7 := hf.2.2.2.2.2.2.2.2.2.2.2.1
  refine fm_ild1 dX9_cue_0 ?_
  refine fm_iconst dX9_cue_1 ?_
  refine fm_iconst dX9_cue_2 ?_
  refine fm_csI dX9_cue_3 cl_X9_77 (k_X9_in ⟨by omega, by omega⟩ ⟨by omega, by omega⟩ ⟨by omega, by omega⟩) rfl rfl (by decide) rfl rfl (Nat.le_of_ble_eq_true rfl) (fun z3 s3 q3 => ?_)
  obtain ⟨q3, rfl⟩ := q3
  refine fm_if_eq (⟨by omega, by omega⟩) 33 dX9_cue_6 (by decide) (fun h6 => ?_) (fun h6 => ?_)
  · refine fm_iconst dX9_cue_33 ?_
    refine fm_iretI dX9_cue_34 rfl ?_
    unfold sp_cue
    first
      | (rw [if_pos (by omega)]; exact ⟨by omega, sam.rfl⟩)
      | (rw [if_neg (by omega), if_pos (by omega)]; exact ⟨by omega, sam.rfl⟩)
      | (rw [if_neg (by omega), if_neg (by omega)]; exact ⟨rfl, sam.rfl⟩)
  · refine fm_ild2 dX9_cue_9 ?_
    refine fm_iconst dX9_cue_10 ?_
    refine fm_iconst dX9_cue_11 ?_
    refine fm_csI dX9_cue_12 cl_X9_77 (k_X9_in ⟨by omega, by omega⟩ ⟨by omega, by omega⟩ ⟨by omega, by omega⟩) rfl rfl (by decide) rfl rfl (Nat.le_of_ble_eq_true rfl) (fun z12 s12 q12 => ?_)
    obtain ⟨q12, rfl⟩ := q12
    refine fm_if_eq (⟨by omega, by omega⟩) 33 dX9_cue_15 (by decide) (fun h15 => ?_) (fun h15 => ?_)
    · refine fm_iconst dX9_cue_33 ?_
      refine fm_iretI dX9_cue_34 rfl ?_
      unfold sp_cue
      first
        | (rw [if_pos (by omega)]; exact ⟨by omega, sam.rfl⟩)
        | (rw [if_neg (by omega), if_pos (by omega)]; exact ⟨by omega, sam.rfl⟩)
        | (rw [if_neg (by omega), if_neg (by omega)]; exact ⟨rfl, sam.rfl⟩)
    · refine fm_ild1 dX9_cue_18 ?_
      refine fm_ild2 dX9_cue_19 ?_
      refine fm_icmp_eq (⟨by omega, by omega⟩) (⟨by omega, by omega⟩) 33 dX9_cue_20 (by decide) (fun h20 => ?_) (fun h20 => ?_)
      · refine fm_iconst dX9_cue_33 ?_
        refine fm_iretI dX9_cue_34 rfl ?_
        unfold sp_cue
        first
          | (rw [if_pos (by omega)]; exact ⟨by omega, sam.rfl⟩)
          | (rw [if_neg (by omega), if_pos (by omega)]; exact ⟨by omega, sam.rfl⟩)
          | (rw [if_neg (by omega), if_neg (by omega)]; exact ⟨rfl, sam.rfl⟩)
      · refine fm_ild3 dX9_cue_23 ?_
        refine fm_iconst dX9_cue_24 ?_
        refine fm_bipush (by decide) dX9_cue_25 ?_
        refine fm_csI dX9_cue_27 cl_X9_77 (k_X9_in ⟨by omega, by omega⟩ ⟨by omega, by omega⟩ ⟨by omega, by omega⟩) rfl rfl (by decide) rfl rfl (Nat.le_of_ble_eq_true rfl) (fun z27 s27 q27 => ?_)
        obtain ⟨q27, rfl⟩ := q27
        refine fm_if_ne (⟨by omega, by omega⟩) 35 dX9_cue_30 (by decide) (fun h30 => ?_) (fun h30 => ?_)
        · refine fm_ald0 dX9_cue_35 ?_
          refine gi_8_12 dX9_cue_36 fd_X9_146 ?_
          try simp (disch := omega) only [fm_up_ne, fm_up_nj, fm_up_eq]
          refine fm_bipush (by decide) dX9_cue_39 ?_
          refine fm_icmp_ne (⟨by omega, by omega⟩) (⟨by omega, by omega⟩) 47 dX9_cue_41 (by decide) (fun h41 => ?_) (fun h41 => ?_)
          · refine fm_ald0 dX9_cue_47 ?_
            refine gr_8_13 dX9_cue_48 fd_X9_40 ?_
            refine fm_ald0 dX9_cue_51 ?_
            refine gi_8_12 dX9_cue_52 fd_X9_146 ?_
            try simp (disch := omega) only [fm_up_ne, fm_up_nj, fm_up_eq]
            refine fm_ild1 dX9_cue_55 ?_
            refine fm_iast dX9_cue_56 ma_11 (by omega) (by omega) ?_
            refine fm_ald0 dX9_cue_57 ?_
            refine gr_8_14 dX9_cue_58 fd_X9_43 ?_
            refine fm_ald0 dX9_cue_61 ?_
            refine gi_8_12 dX9_cue_62 fd_X9_146 ?_
            try simp (disch := omega) only [fm_up_ne, fm_up_nj, fm_up_eq]
            refine fm_ild2 dX9_cue_65 ?_
            refine fm_iast dX9_cue_66 ma_12 (by omega) (by omega) ?_
            refine fm_ald0 dX9_cue_67 ?_
            refine gr_8_15 dX9_cue_68 fd_X9_46 ?_
            refine fm_ald0 dX9_cue_71 ?_
            refine gi_8_12 dX9_cue_72 fd_X9_146 ?_
            try simp (disch := omega) only [fm_up_ne, fm_up_nj, fm_up_eq]
            refine fm_ild3 dX9_cue_75 ?_
            refine fm_iast dX9_cue_76 ma_13 (by omega) (by omega) ?_
            refine fm_ald0 dX9_cue_77 ?_
            refine fm_dupR dX9_cue_78 ?_
            refine gi_8_12 dX9_cue_79 fd_X9_146 ?_
            try simp (disch := omega) only [fm_up_ne, fm_up_nj, fm_up_eq]
            refine fm_iconst dX9_cue_82 ?_
            refine fm_iadd dX9_cue_83 ?_
            refine pf_8_12 dX9_cue_84 fd_X9_146 ?_
            refine fm_ald0 dX9_cue_87 ?_
            refine gi_8_12 dX9_cue_88 fd_X9_146 ?_
            try simp (disch := omega) only [fm_up_ne, fm_up_nj, fm_up_eq]
            refine fm_iretI dX9_cue_91 rfl ?_
            unfold sp_cue
            first
              | (rw [if_pos (by omega)]; exact ⟨by omega, sam.rfl⟩)
              | (rw [if_neg (by omega), if_pos (by omega)]; exact ⟨by omega, sam.rfl⟩)
              | (rw [if_neg (by omega), if_neg (by omega)]; exact ⟨rfl, sam.rfl⟩)
          · refine fm_bipush (by decide) dX9_cue_44 ?_
            refine fm_iretI dX9_cue_46 rfl ?_
            unfold sp_cue
            first
              | (rw [if_pos (by omega)]; exact ⟨by omega, sam.rfl⟩)
              | (rw [if_neg (by omega), if_pos (by omega)]; exact ⟨by omega, sam.rfl⟩)
              | (rw [if_neg (by omega), if_neg (by omega)]; exact ⟨rfl, sam.rfl⟩)
        · refine fm_iconst dX9_cue_33 ?_
          refine fm_iretI dX9_cue_34 rfl ?_
          unfold sp_cue
          first
            | (rw [if_pos (by omega)]; exact ⟨by omega, sam.rfl⟩)
            | (rw [if_neg (by omega), if_pos (by omega)]; exact ⟨by omega, sam.rfl⟩)
            | (rw [if_neg (by omega), if_neg (by omega)]; exact ⟨rfl, sam.rfl⟩)
set_option maxRecDepth 20000 in
set_option maxHeartbeats 4000000 in
theorem k_X9_noCues {ω : fm_O} {σ : fm_Mem} (hi : fj σ)  : fm_Met km ω yX9_noCues cX9_noCues 2 (some .int) (fm_rm 0) [fm_r ω 0] σ (fm_pI fun z σ' => z = (sp_noCues σ).1 ∧ sam (sp_noCues σ).2 σ') := by
  refine fm_start (by decide) rfl (Nat.le_of_ble_eq_true rfl) [some (fm_r ω 0), none] rfl (fun Γ => ?_)
  have hf := hi.fi
  have b0 := hf.1
  refine fm_ald0 dX9_noCues_0 ?_
  refine gi_8_12 dX9_noCues_1 fd_X9_146 ?_
  refine fm_ist1 rfl dX9_noCues_4 ?_
  refine fm_ald0 dX9_noCues_5 ?_
  refine fm_iconst dX9_noCues_6 ?_
  refine pf_8_12 dX9_noCues_7 fd_X9_146 ?_
  refine fm_ild1 dX9_noCues_10 ?_
  exact fm_iretI dX9_noCues_11 rfl ⟨rfl, sam.rfl⟩
set_option maxRecDepth 20000 in
set_option maxHeartbeats 4000000 in
theorem k_X9_undo {ω : fm_O} {σ : fm_Mem} (hi : fj σ)  : fm_Met km ω yX9_undo cX9_undo 1 (some .int) (fm_rm 0) [fm_r ω 0] σ (fm_pI fun z σ' => z = (sp_undo σ).1 ∧ sam (sp_undo σ).2 σ') := by
  refine fm_start (by decide) rfl (Nat.le_of_ble_eq_true rfl) [some (fm_r ω 0)] rfl (fun Γ => ?_)
  have hf := hi.fi
  have b0 := hf.1
  have bt := hf.2.2.2.2.2.2.2.2.2.2.2.2.2.1
  refine fm_ald0 dX9_undo_0 ?_
  refine gi_8_16 dX9_undo_1 fd_X9_95 ?_
  try simp (disch := omega) only [fm_up_ne, fm_up_nj, fm_up_eq]
  refine fm_if_ne (⟨by omega, by omega⟩) 10 dX9_undo_4 (by decide) (fun h4 => ?_) (fun h4 => ?_)
  · have b14 := (hf.2.2.2.2.2.2.2.2.2.2.2.2.2.2 (σ 0 16 - 1).toNat).1
    refine fm_ald0 dX9_undo_10 ?_
    refine fm_dupR dX9_undo_11 ?_
    refine gi_8_16 dX9_undo_12 fd_X9_95 ?_
    try simp (disch := omega) only [fm_up_ne, fm_up_nj, fm_up_eq]
    refine fm_iconst dX9_undo_15 ?_
    refine fm_isub dX9_undo_16 ?_
    refine pf_8_16 dX9_undo_17 fd_X9_95 ?_
    refine fm_ald0 dX9_undo_20 ?_
    refine gr_8_3 dX9_undo_21 fd_X9_16 ?_
    refine fm_ald0 dX9_undo_24 ?_
    refine gr_8_17 dX9_undo_25 fd_X9_49 ?_
    refine fm_ald0 dX9_undo_28 ?_
    refine gi_8_16 dX9_undo_29 fd_X9_95 ?_
    try simp (disch := omega) only [fm_up_ne, fm_up_nj, fm_up_eq]
    refine fm_iald dX9_undo_32 ma_14 (by omega) (by omega) ?_
    try simp (disch := omega) only [fm_up_ne, fm_up_nj, fm_up_eq]
    refine fm_ald0 dX9_undo_33 ?_
    refine gr_8_18 dX9_undo_34 fd_X9_52 ?_
    refine fm_ald0 dX9_undo_37 ?_
    refine gi_8_16 dX9_undo_38 fd_X9_95 ?_
    try simp (disch := omega) only [fm_up_ne, fm_up_nj, fm_up_eq]
    refine fm_iald dX9_undo_41 ma_15 (by omega) (by omega) ?_
    try simp (disch := omega) only [fm_up_ne, fm_up_nj, fm_up_eq]
    refine fm_iast dX9_undo_42 ma_3 (by omega) (by omega) ?_
    refine fm_ald0 dX9_undo_43 ?_
    refine gr_8_17 dX9_undo_44 fd_X9_49 ?_
    refine fm_ald0 dX9_undo_47 ?_
    refine gi_8_16 dX9_undo_48 fd_X9_95 ?_
    try simp (disch := omega) only [fm_up_ne, fm_up_nj, fm_up_eq]
    refine fm_iald dX9_undo_51 ma_14 (by omega) (by omega) ?_
    try simp (disch := omega) only [fm_up_ne, fm_up_nj, fm_up_eq]
    refine fm_bipush (by decide) dX9_undo_52 ?_
    refine fm_idiv (σ 14 (σ 0 16 - 1).toNat / 40) (by decide) (fm_divL (by omega) (by omega) (by omega) (by omega)) dX9_undo_54 ?_
    refine fm_bipush (by decide) dX9_undo_55 ?_
    refine fm_imul dX9_undo_57 ?_
    refine fm_ald0 dX9_undo_58 ?_
    refine gr_8_17 dX9_undo_59 fd_X9_49 ?_
    refine fm_ald0 dX9_undo_62 ?_
    refine gi_8_16 dX9_undo_63 fd_X9_95 ?_
    try simp (disch := omega) only [fm_up_ne, fm_up_nj, fm_up_eq]
    refine fm_iald dX9_undo_66 ma_14 (by omega) (by omega) ?_
    try simp (disch := omega) only [fm_up_ne, fm_up_nj, fm_up_eq]
    refine fm_bipush (by decide) dX9_undo_67 ?_
    refine fm_irem (σ 14 (σ 0 16 - 1).toNat % 40) (by decide) (fm_remL (by omega) (by omega) (by omega) (by omega)) dX9_undo_69 ?_
    refine fm_iadd dX9_undo_70 ?_
    refine fm_iretI dX9_undo_71 rfl ?_
    unfold sp_undo
    first
      | (rw [if_pos (by omega)]; exact ⟨by omega, sam.rfl⟩)
      | (rw [if_neg (by omega)]; exact ⟨rfl, sam.rfl⟩)
  · refine fm_bipush (by decide) dX9_undo_7 ?_
    refine fm_iretI dX9_undo_9 rfl ?_
    unfold sp_undo
    first
      | (rw [if_pos (by omega)]; exact ⟨by omega, sam.rfl⟩)
      | (rw [if_neg (by omega)]; exact ⟨rfl, sam.rfl⟩)
set_option maxRecDepth 20000 in
set_option maxHeartbeats 4000000 in
theorem k_X9_count {ω : fm_O} {σ : fm_Mem} (hi : fj σ) {t : Int} (rt : fm_R t) : fm_Met km ω yX9_count cX9_count 2 (some .int) (fm_rm 0) [fm_r ω 0, fm_I t] σ (fm_pI fun z σ' => z = sp_count σ t ∧ sam σ σ') := by
  refine fm_start (by decide) rfl (Nat.le_of_ble_eq_true rfl) [some (fm_r ω 0), some (fm_I t)] rfl (fun Γ => ?_)
  have hf := hi.fi
  have b0 := hf.1
  refine fm_ild1 dX9_count_0 ?_
  rcases (show t = 0 ∨ t = 1 ∨ t = 2 ∨ t = 3 ∨ t = 4 ∨ (t < 0 ∨ 4 < t) by omega) with hsw | hsw | hsw | hsw | hsw | hsw
  · refine fm_tabIn (off := 35) 36 dX9_count_1 (⟨by omega, by omega⟩) (by omega) (by omega) (by rw [hsw]; rfl) (by decide) ?_
    refine fm_ald0 dX9_count_36 ?_
    refine gi_8_0 dX9_count_37 fd_X9_73 ?_
    refine fm_iretI dX9_count_40 rfl ?_
    unfold sp_count
    first
      | (rw [if_pos (by omega)]; exact ⟨rfl, sam.rfl⟩)
      | (rw [if_neg (by omega), if_pos (by omega)]; exact ⟨rfl, sam.rfl⟩)
      | (rw [if_neg (by omega), if_neg (by omega), if_pos (by omega)]; exact ⟨rfl, sam.rfl⟩)
      | (rw [if_neg (by omega), if_neg (by omega), if_neg (by omega), if_pos (by omega)]; exact ⟨rfl, sam.rfl⟩)
      | (rw [if_neg (by omega), if_neg (by omega), if_neg (by omega), if_neg (by omega), if_pos (by omega)]; exact ⟨rfl, sam.rfl⟩)
      | (rw [if_neg (by omega), if_neg (by omega), if_neg (by omega), if_neg (by omega), if_neg (by omega)]; exact ⟨rfl, sam.rfl⟩)
  · refine fm_tabIn (off := 40) 41 dX9_count_1 (⟨by omega, by omega⟩) (by omega) (by omega) (by rw [hsw]; rfl) (by decide) ?_
    refine fm_ald0 dX9_count_41 ?_
    refine gr_8_1 dX9_count_42 fd_X9_7 ?_
    refine fm_bipush (by decide) dX9_count_45 ?_
    refine fm_iald dX9_count_47 ma_1 (by omega) (by omega) ?_
    refine fm_iretI dX9_count_48 rfl ?_
    unfold sp_count
    first
      | (rw [if_pos (by omega)]; exact ⟨rfl, sam.rfl⟩)
      | (rw [if_neg (by omega), if_pos (by omega)]; exact ⟨rfl, sam.rfl⟩)
      | (rw [if_neg (by omega), if_neg (by omega), if_pos (by omega)]; exact ⟨rfl, sam.rfl⟩)
      | (rw [if_neg (by omega), if_neg (by omega), if_neg (by omega), if_pos (by omega)]; exact ⟨rfl, sam.rfl⟩)
      | (rw [if_neg (by omega), if_neg (by omega), if_neg (by omega), if_neg (by omega), if_pos (by omega)]; exact ⟨rfl, sam.rfl⟩)
      | (rw [if_neg (by omega), if_neg (by omega), if_neg (by omega), if_neg (by omega), if_neg (by omega)]; exact ⟨rfl, sam.rfl⟩)
  · refine fm_tabIn (off := 48) 49 dX9_count_1 (⟨by omega, by omega⟩) (by omega) (by omega) (by rw [hsw]; rfl) (by decide) ?_
    refine fm_ald0 dX9_count_49 ?_
    refine gi_8_7 dX9_count_50 fd_X9_140 ?_
    refine fm_iretI dX9_count_53 rfl ?_
    unfold sp_count
    first
      | (rw [if_pos (by omega)]; exact ⟨rfl, sam.rfl⟩)
      | (rw [if_neg (by omega), if_pos (by omega)]; exact ⟨rfl, sam.rfl⟩)
      | (rw [if_neg (by omega), if_neg (by omega), if_pos (by omega)]; exact ⟨rfl, sam.rfl⟩)
      | (rw [if_neg (by omega), if_neg (by omega), if_neg (by omega), if_pos (by omega)]; exact ⟨rfl, sam.rfl⟩)
      | (rw [if_neg (by omega), if_neg (by omega), if_neg (by omega), if_neg (by omega), if_pos (by omega)]; exact ⟨rfl, sam.rfl⟩)
      | (rw [if_neg (by omega), if_neg (by omega), if_neg (by omega), if_neg (by omega), if_neg (by omega)]; exact ⟨rfl, sam.rfl⟩)
  · refine fm_tabIn (off := 53) 54 dX9_count_1 (⟨by omega, by omega⟩) (by omega) (by omega) (by rw [hsw]; rfl) (by decide) ?_
    refine fm_ald0 dX9_count_54 ?_
    refine gi_8_12 dX9_count_55 fd_X9_146 ?_
    refine fm_iretI dX9_count_58 rfl ?_
    unfold sp_count
    first
      | (rw [if_pos (by omega)]; exact ⟨rfl, sam.rfl⟩)
      | (rw [if_neg (by omega), if_pos (by omega)]; exact ⟨rfl, sam.rfl⟩)
      | (rw [if_neg (by omega), if_neg (by omega), if_pos (by omega)]; exact ⟨rfl, sam.rfl⟩)
      | (rw [if_neg (by omega), if_neg (by omega), if_neg (by omega), if_pos (by omega)]; exact ⟨rfl, sam.rfl⟩)
      | (rw [if_neg (by omega), if_neg (by omega), if_neg (by omega), if_neg (by omega), if_pos (by omega)]; exact ⟨rfl, sam.rfl⟩)
      | (rw [if_neg (by omega), if_neg (by omega), if_neg (by omega), if_neg (by omega), if_neg (by omega)]; exact ⟨rfl, sam.rfl⟩)
  · refine fm_tabIn (off := 58) 59 dX9_count_1 (⟨by omega, by omega⟩) (by omega) (by omega) (by rw [hsw]; rfl) (by decide) ?_
    refine fm_ald0 dX9_count_59 ?_
    refine gi_8_16 dX9_count_60 fd_X9_95 ?_
    refine fm_iretI dX9_count_63 rfl ?_
    unfold sp_count
    first
      | (rw [if_pos (by omega)]; exact ⟨rfl, sam.rfl⟩)
      | (rw [if_neg (by omega), if_pos (by omega)]; exact ⟨rfl, sam.rfl⟩)
      | (rw [if_neg (by omega), if_neg (by omega), if_pos (by omega)]; exact ⟨rfl, sam.rfl⟩)
      | (rw [if_neg (by omega), if_neg (by omega), if_neg (by omega), if_pos (by omega)]; exact ⟨rfl, sam.rfl⟩)
      | (rw [if_neg (by omega), if_neg (by omega), if_neg (by omega), if_neg (by omega), if_pos (by omega)]; exact ⟨rfl, sam.rfl⟩)
      | (rw [if_neg (by omega), if_neg (by omega), if_neg (by omega), if_neg (by omega), if_neg (by omega)]; exact ⟨rfl, sam.rfl⟩)
  · refine fm_tabOut (⟨by omega, by omega⟩) 64 dX9_count_1 hsw (by decide) ?_
    refine fm_iconst dX9_count_64 ?_
    refine fm_iretI dX9_count_65 rfl ?_
    unfold sp_count
    first
      | (rw [if_pos (by omega)]; exact ⟨rfl, sam.rfl⟩)
      | (rw [if_neg (by omega), if_pos (by omega)]; exact ⟨rfl, sam.rfl⟩)
      | (rw [if_neg (by omega), if_neg (by omega), if_pos (by omega)]; exact ⟨rfl, sam.rfl⟩)
      | (rw [if_neg (by omega), if_neg (by omega), if_neg (by omega), if_pos (by omega)]; exact ⟨rfl, sam.rfl⟩)
      | (rw [if_neg (by omega), if_neg (by omega), if_neg (by omega), if_neg (by omega), if_pos (by omega)]; exact ⟨rfl, sam.rfl⟩)
      | (rw [if_neg (by omega), if_neg (by omega), if_neg (by omega), if_neg (by omega), if_neg (by omega)]; exact ⟨rfl, sam.rfl⟩)
set_option maxRecDepth 20000 in
set_option maxHeartbeats 4000000 in
theorem l_X9_tintOf {ω : fm_O} {σ : fm_Mem} {c i : Int} (rc : fm_R c) (ri : fm_R i) (hf : fi σ) {Γ : fm_G} : ∀ (d : Nat) (z t : Int), 0 ≤ z → z + d = σ 0 7 → t = ltint (σ 7) (σ 8) (σ 9) (σ 10) c i z.toNat → fm_W km ω Γ (cX9_tintOf, RX9, fm_rm 1, 5, (some .int)) (fm_pI fun z σ' => z = ltint (σ 7) (σ 8) (σ 9) (σ 10) c i (σ 0 7).toNat ∧ σ = σ') σ 5 [some (fm_r ω 0), some (fm_I c), some (fm_I i), some (fm_I t), some (fm_I z)] [] := by
  have b7 := hf.2.2.2.2.2.2.2.2.2.1
  intro d
  induction d with
  | zero =>
    intro z t h0 hz ht
    refine fm_ild4 dX9_tintOf_5 ?_
    refine fm_ald0 dX9_tintOf_7 ?_
    refine gi_8_7 dX9_tintOf_8 fd_X9_140 ?_
    refine fm_icmp_ge (⟨by omega, by omega⟩) (⟨by omega, by omega⟩) 64 dX9_tintOf_11 (by decide) (fun h11 => ?_) (fun h11 => ?_)
    · refine fm_ild3 dX9_tintOf_64 ?_
      exact fm_iretI dX9_tintOf_65 rfl ⟨by rw [ht, show z = σ 0 7 by omega], rfl⟩
    · exfalso; omega
  | succ d ih =>
    intro z t h0 hz ht
    obtain ⟨n7, n8, n9, n10⟩ := hf.2.2.2.2.2.2.2.2.2.2.1 z.toNat
    have e1 : (z + 1).toNat = z.toNat + 1 := by omega
    refine fm_ild4 dX9_tintOf_5 ?_
    refine fm_ald0 dX9_tintOf_7 ?_
    refine gi_8_7 dX9_tintOf_8 fd_X9_140 ?_
    refine fm_icmp_ge (⟨by omega, by omega⟩) (⟨by omega, by omega⟩) 64 dX9_tintOf_11 (by decide) (fun h11 => ?_) (fun h11 => ?_)
    · exfalso; omega
    · refine fm_ald0 dX9_tintOf_14 ?_
      refine gr_8_8 dX9_tintOf_15 fd_X9_28 ?_
      refine fm_ild4 dX9_tintOf_18 ?_
      refine fm_iald dX9_tintOf_20 ma_7 (by omega) (by omega) ?_
      refine fm_ild1 dX9_tintOf_21 ?_
      refine fm_icmp_ne (⟨by omega, by omega⟩) (⟨by omega, by omega⟩) 56 dX9_tintOf_22 (by decide) (fun h22 => ?_) (fun h22 => ?_)
      · refine fm_ild3 dX9_tintOf_56 ?_
        refine fm_ist3 rfl dX9_tintOf_57 ?_
        refine fm_inc4 rfl dX9_tintOf_58 ?_
        refine fm_goto 5 dX9_tintOf_61 (by decide) ?_
        refine ih (z + 1) _ (by omega) (by omega) ?_
        rw [e1, ltint]
        first
          | (rw [if_pos (by omega)]; done)
          | (rw [if_neg (by omega)]; exact ht)
      · refine fm_ild2 dX9_tintOf_25 ?_
        refine fm_ald0 dX9_tintOf_26 ?_
        refine gr_8_9 dX9_tintOf_27 fd_X9_31 ?_
        refine fm_ild4 dX9_tintOf_30 ?_
        refine fm_iald dX9_tintOf_32 ma_8 (by omega) (by omega) ?_
        refine fm_ald0 dX9_tintOf_33 ?_
        refine gr_8_10 dX9_tintOf_34 fd_X9_34 ?_
        refine fm_ild4 dX9_tintOf_37 ?_
        refine fm_iald dX9_tintOf_39 ma_9 (by omega) (by omega) ?_
        refine fm_csI dX9_tintOf_40 cl_X9_77 (k_X9_in ⟨by omega, by omega⟩ ⟨by omega, by omega⟩ ⟨by omega, by omega⟩) rfl rfl (by decide) rfl rfl (Nat.le_of_ble_eq_true rfl) (fun z40 s40 q40 => ?_)
        obtain ⟨q40, rfl⟩ := q40
        refine fm_if_eq (⟨by omega, by omega⟩) 56 dX9_tintOf_43 (by decide) (fun h43 => ?_) (fun h43 => ?_)
        · refine fm_ild3 dX9_tintOf_56 ?_
          refine fm_ist3 rfl dX9_tintOf_57 ?_
          refine fm_inc4 rfl dX9_tintOf_58 ?_
          refine fm_goto 5 dX9_tintOf_61 (by decide) ?_
          refine ih (z + 1) _ (by omega) (by omega) ?_
          rw [e1, ltint]
          first
            | (rw [if_pos (by omega)]; done)
            | (rw [if_neg (by omega)]; exact ht)
        · refine fm_ald0 dX9_tintOf_46 ?_
          refine gr_8_11 dX9_tintOf_47 fd_X9_37 ?_
          refine fm_ild4 dX9_tintOf_50 ?_
          refine fm_iald dX9_tintOf_52 ma_10 (by omega) (by omega) ?_
          refine fm_goto 57 dX9_tintOf_53 (by decide) ?_
          refine fm_ist3 rfl dX9_tintOf_57 ?_
          refine fm_inc4 rfl dX9_tintOf_58 ?_
          refine fm_goto 5 dX9_tintOf_61 (by decide) ?_
          refine ih (z + 1) _ (by omega) (by omega) ?_
          rw [e1, ltint]
          first
            | (rw [if_pos (by omega)]; done)
            | (rw [if_neg (by omega)]; exact ht)
set_option maxRecDepth 20000 in
set_option maxHeartbeats 4000000 in
theorem k_X9_tintOf {ω : fm_O} {σ : fm_Mem} {c i : Int} (rc : fm_R c) (ri : fm_R i) (hf : fi σ) : fm_Met km ω yX9_tintOf cX9_tintOf 5 (some .int) (fm_rm 1) [fm_r ω 0, fm_I c, fm_I i] σ (fm_pI fun z σ' => z = ltint (σ 7) (σ 8) (σ 9) (σ 10) c i (σ 0 7).toNat ∧ σ = σ') := by
  refine fm_start (by decide) rfl (Nat.le_of_ble_eq_true rfl) [some (fm_r ω 0), some (fm_I c), some (fm_I i), none, none] rfl (fun Γ => ?_)
  refine fm_iconst dX9_tintOf_0 ?_
  refine fm_ist3 rfl dX9_tintOf_1 ?_
  refine fm_iconst dX9_tintOf_2 ?_
  refine fm_ist4 rfl dX9_tintOf_3 ?_
  exact l_X9_tintOf rc ri hf (σ 0 7).toNat 0 0 (by omega) (by have b7 := hf.2.2.2.2.2.2.2.2.2.1; omega) rfl
