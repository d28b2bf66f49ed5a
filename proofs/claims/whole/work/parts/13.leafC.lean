set_option maxRecDepth 20000 in
set_option maxHeartbeats 4000000 in
theorem k_X8_changeWear {ω : fm_O} {σ : fm_Mem} {c i v : Int} (hc : 0 ≤ c ∧ c < 6) (hi : 0 ≤ i ∧ i < 40) (h0 : 0 ≤ σ 23 3) (h1 : σ 23 3 ≤ 30) : fm_Met kc ω yX8_changeWear cX8_changeWear 5 none (fm_rm 4) [fm_r ω 0, fm_I c, fm_I i, fm_I v] σ (fm_pN fun σ' => σ' = fm_up (st_keep σ c i (σ (39 + c.toNat) i.toNat)) (39 + c.toNat) i.toNat v) := by
  refine fm_start (by decide) rfl (Nat.le_of_ble_eq_true rfl) [some (fm_r ω 0), some (fm_I c), some (fm_I i), some (fm_I v), none] rfl (fun Γ => ?_)
  refine fm_ald0 dX8_changeWear_0 ?_
  refine gr_7_0 dX8_changeWear_1 fd_X8_11 ?_
  refine fm_ild1 dX8_changeWear_4 ?_
  refine ar_1 (by omega) (by omega) dX8_changeWear_5 ?_
  refine gr_3_1 (by omega) dX8_changeWear_6 fd_X8_112 ?_
  refine fm_ast4 rfl dX8_changeWear_9 ?_
  refine fm_ald0 dX8_changeWear_11 ?_
  refine gr_7_8 dX8_changeWear_12 fd_X8_50 ?_
  refine fm_ild1 dX8_changeWear_15 ?_
  refine fm_ild2 dX8_changeWear_16 ?_
  refine fm_ald4 dX8_changeWear_17 ?_
  refine fm_ild2 dX8_changeWear_19 ?_
  refine fm_iald dX8_changeWear_20 (ia_rw (by omega)) (by omega) (by omega) ?_
  refine fm_cvN dX8_changeWear_21 cl_X8_222 (k_X6_keep (by omega) (by omega)) ob_23 rfl rfl (by decide) rfl rfl (Nat.le_of_ble_eq_true rfl) (fun s21 q21 => ?_)
  subst q21
  refine fm_ald4 dX8_changeWear_24 ?_
  refine fm_ild2 dX8_changeWear_26 ?_
  refine fm_ild3 dX8_changeWear_27 ?_
  refine fm_iast dX8_changeWear_28 (ia_rw (by omega)) (by omega) (by omega) ?_
  exact fm_vretN dX8_changeWear_29 rfl rfl
/-- the tint of the last note that holds, or 0 -/
def ltint (cp sa en ti : Nat → Int) (c i : Int) : Nat → Int
  | 0 => 0
  | k + 1 => if cp k = c ∧ sa k ≤ i ∧ i ≤ en k then ti k else ltint cp sa en ti c i k
set_option maxRecDepth 20000 in
set_option maxHeartbeats 4000000 in
theorem l_X2_tintOf {ω : fm_O} {σ : fm_Mem} {c i : Int} (rc : fm_R c) (ri : fm_R i) (hn : ∀ k, k < 12 → fm_R (σ 14 k) ∧ fm_R (σ 15 k) ∧ fm_R (σ 16 k)) {Q : Int → fm_Mem → Prop} {Γ : fm_G} : ∀ n : Nat, n ≤ 12 → ∀ z : Int, z = (n : Int) - 1 → Q (ltint (σ 14) (σ 15) (σ 16) (σ 17) c i n) σ → fm_W kc ω Γ (cX2_tintOf, RX2, fm_rm 0, 4, (some .int)) (fm_pI Q) σ 7 [some (fm_r ω 13), some (fm_I c), some (fm_I i), some (fm_I z)] [] := by
  intro n
  induction n with
  | zero =>
    intro hn12 z hz hQ
    refine fm_ild3 dX2_tintOf_7 ?_
    refine fm_if_lt (⟨by omega, by omega⟩) 54 dX2_tintOf_8 (by decide) (fun h8 => ?_) (fun h8 => ?_)
    · refine fm_iconst dX2_tintOf_54 ?_
      exact fm_iretI dX2_tintOf_55 rfl hQ
    · exfalso; omega
  | succ n ih =>
    intro hn12 z hz hQ
    have hzn : z.toNat = n := by omega
    obtain ⟨b1, b2, b3⟩ := hn n (by omega)
    rw [ltint] at hQ
    refine fm_ild3 dX2_tintOf_7 ?_
    refine fm_if_lt (⟨by omega, by omega⟩) 54 dX2_tintOf_8 (by decide) (fun h8 => ?_) (fun h8 => ?_)
    · exfalso; omega
    · refine fm_ald0 dX2_tintOf_11 ?_
      refine gr_2_0 dX2_tintOf_12 fd_X2_9 ?_
      refine fm_ild3 dX2_tintOf_15 ?_
      refine fm_iald dX2_tintOf_16 ia_14 (by omega) (by omega) ?_
      rw [hzn]
      refine fm_ild1 dX2_tintOf_17 ?_
      refine fm_icmp_ne (⟨by omega, by omega⟩) (⟨by omega, by omega⟩) 48 dX2_tintOf_18 (by decide) (fun h18 => ?_) (fun h18 => ?_)
      · refine fm_inc3 rfl dX2_tintOf_48 ?_
        refine fm_goto 7 dX2_tintOf_51 (by decide) ?_
        exact ih (by omega) _ (by omega) (by rw [if_neg (by omega)] at hQ; exact hQ)
      · refine fm_ald0 dX2_tintOf_21 ?_
        refine gr_2_1 dX2_tintOf_22 fd_X2_15 ?_
        refine fm_ild3 dX2_tintOf_25 ?_
        refine fm_iald dX2_tintOf_26 ia_15 (by omega) (by omega) ?_
        rw [hzn]
        refine fm_ild2 dX2_tintOf_27 ?_
        refine fm_icmp_gt (⟨by omega, by omega⟩) (⟨by omega, by omega⟩) 48 dX2_tintOf_28 (by decide) (fun h28 => ?_) (fun h28 => ?_)
        · refine fm_inc3 rfl dX2_tintOf_48 ?_
          refine fm_goto 7 dX2_tintOf_51 (by decide) ?_
          exact ih (by omega) _ (by omega) (by rw [if_neg (by omega)] at hQ; exact hQ)
        · refine fm_ild2 dX2_tintOf_31 ?_
          refine fm_ald0 dX2_tintOf_32 ?_
          refine gr_2_2 dX2_tintOf_33 fd_X2_18 ?_
          refine fm_ild3 dX2_tintOf_36 ?_
          refine fm_iald dX2_tintOf_37 ia_16 (by omega) (by omega) ?_
          rw [hzn]
          refine fm_icmp_gt (⟨by omega, by omega⟩) (⟨by omega, by omega⟩) 48 dX2_tintOf_38 (by decide) (fun h38 => ?_) (fun h38 => ?_)
          · refine fm_inc3 rfl dX2_tintOf_48 ?_
            refine fm_goto 7 dX2_tintOf_51 (by decide) ?_
            exact ih (by omega) _ (by omega) (by rw [if_neg (by omega)] at hQ; exact hQ)
          · refine fm_ald0 dX2_tintOf_41 ?_
            refine gr_2_3 dX2_tintOf_42 fd_X2_21 ?_
            refine fm_ild3 dX2_tintOf_45 ?_
            refine fm_iald dX2_tintOf_46 ia_17 (by omega) (by omega) ?_
            rw [hzn]
            exact fm_iretI dX2_tintOf_47 rfl (by rw [if_pos (by omega)] at hQ; exact hQ)
set_option maxRecDepth 20000 in
set_option maxHeartbeats 4000000 in
theorem k_X2_tintOf {ω : fm_O} {σ : fm_Mem} {c i : Int} (rc : fm_R c) (ri : fm_R i) (hn : ∀ k, k < 12 → fm_R (σ 14 k) ∧ fm_R (σ 15 k) ∧ fm_R (σ 16 k)) (h0 : 0 ≤ σ 13 4) (h1 : σ 13 4 ≤ 12) : fm_Met kc ω yX2_tintOf cX2_tintOf 4 (some .int) (fm_rm 0) [fm_r ω 13, fm_I c, fm_I i] σ (fm_pI fun z σ' => z = ltint (σ 14) (σ 15) (σ 16) (σ 17) c i (σ 13 4).toNat ∧ σ = σ') := by
  refine fm_start (by decide) rfl (Nat.le_of_ble_eq_true rfl) [some (fm_r ω 13), some (fm_I c), some (fm_I i), none] rfl (fun Γ => ?_)
  refine fm_ald0 dX2_tintOf_0 ?_
  refine gi_2_4 dX2_tintOf_1 fd_X2_24 ?_
  refine fm_iconst dX2_tintOf_4 ?_
  refine fm_isub dX2_tintOf_5 ?_
  refine fm_ist3 rfl dX2_tintOf_6 ?_
  exact l_X2_tintOf rc ri hn (σ 13 4).toNat (by omega) _ (by omega) ⟨rfl, rfl⟩
def fm_fl (σ : fm_Mem) (k n : Nat) (v : Int) : fm_Mem := fun a b => if a = k ∧ b < n then v else σ a b
set_option maxRecDepth 20000 in
set_option maxHeartbeats 4000000 in
theorem l_fill {ω : fm_O} {k n : Nat} {v : Int} (ha : fm_ia kc k n) {σ : fm_Mem} {Γ : fm_G} : ∀ (d : Nat) (z : Int), 0 ≤ z → z + d = n → fm_W kc ω Γ (cJ7_fill_53178, RJ7, fm_rm 0, 4, none) (fm_pN fun σ' => σ' = fm_fl σ k n v) (fm_fl σ k z.toNat v) 5 [some (fm_r ω k), some (fm_I v), some (fm_I z), some (fm_I (n : Int))] [] := by
  have hn := ha.2.2
  intro d
  induction d with
  | zero =>
    intro z h0 hz
    refine fm_ild2 dJ7_fill_53178_5 ?_
    refine fm_ild3 dJ7_fill_53178_6 ?_
    refine fm_icmp_ge (⟨by omega, by omega⟩) (⟨by omega, by omega⟩) 20 dJ7_fill_53178_7 (by decide) (fun h7 => ?_) (fun h7 => ?_)
    · exact fm_vretN dJ7_fill_53178_20 rfl (by rw [show z.toNat = n by omega])
    · exfalso; omega
  | succ d ih =>
    intro z h0 hz
    refine fm_ild2 dJ7_fill_53178_5 ?_
    refine fm_ild3 dJ7_fill_53178_6 ?_
    refine fm_icmp_ge (⟨by omega, by omega⟩) (⟨by omega, by omega⟩) 20 dJ7_fill_53178_7 (by decide) (fun h7 => ?_) (fun h7 => ?_)
    · exfalso; omega
    · refine fm_ald0 dJ7_fill_53178_10 ?_
      refine fm_ild2 dJ7_fill_53178_11 ?_
      refine fm_ild1 dJ7_fill_53178_12 ?_
      refine fm_iast dJ7_fill_53178_13 ha (by omega) (by omega) ?_
      refine fm_inc2 rfl dJ7_fill_53178_14 ?_
      refine fm_goto 5 dJ7_fill_53178_17 (by decide) ?_
      have e : fm_up (fm_fl σ k z.toNat v) k z.toNat v = fm_fl σ k (z + 1).toNat v := by
        funext a b
        simp only [fm_up, fm_fl]
        by_cases h1 : a = k <;> by_cases h2 : b = z.toNat <;> by_cases h3 : b < z.toNat <;> simp [h1, h2, h3] <;> omega
      rw [e]
      exact ih (z + 1) (by omega) (by omega)
set_option maxRecDepth 20000 in
set_option maxHeartbeats 4000000 in
theorem k_fill {ω : fm_O} {σ : fm_Mem} {k n : Nat} {v : Int} (ha : fm_ia kc k n) : fm_Met kc ω yJ7_fill_53178 cJ7_fill_53178 4 none (fm_rm 0) [fm_r ω k, fm_I v] σ (fm_pN fun σ' => σ' = fm_fl σ k n v) := by
  refine fm_start (by decide) rfl (Nat.le_of_ble_eq_true rfl) [some (fm_r ω k), some (fm_I v), none, none] rfl (fun Γ => ?_)
  refine fm_iconst dJ7_fill_53178_0 ?_
  refine fm_ist2 rfl dJ7_fill_53178_1 ?_
  refine fm_ald0 dJ7_fill_53178_2 ?_
  refine fm_alen dJ7_fill_53178_3 ha ?_
  refine fm_ist3 rfl dJ7_fill_53178_4 ?_
  have h := l_fill (ω := ω) (v := v) ha (σ := σ) (Γ := Γ) n 0 (by omega) (by omega)
  rw [show fm_fl σ k (0 : Int).toNat v = σ by funext a b; simp [fm_fl]] at h
  exact h
def cu_cl (σ : fm_Mem) (n : Nat) : fm_Mem := fun a b => if 51 ≤ a ∧ a < 51 + n ∧ b < 6 then 0 else σ a b
set_option maxRecDepth 20000 in
set_option maxHeartbeats 4000000 in
theorem l_clear {ω : fm_O} {σ : fm_Mem} {Γ : fm_G} : ∀ (d : Nat) (z : Int), 0 ≤ z → z + d = 6 → fm_W kc ω Γ (cX0_clear, RX0, fm_rm 1, 2, none) (fm_pN fun σ' => σ' = fm_up (cu_cl σ 6) 18 4 0) (cu_cl σ z.toNat) 2 [some (fm_r ω 18), some (fm_I z)] [] := by
  intro d
  induction d with
  | zero =>
    intro z h0 hz
    refine fm_ild1 dX0_clear_2 ?_
    refine fm_bipush (by decide) dX0_clear_3 ?_
    refine fm_icmp_ge (⟨by omega, by omega⟩) (⟨by omega, by omega⟩) 24 dX0_clear_5 (by decide) (fun h5 => ?_) (fun h5 => ?_)
    · refine fm_ald0 dX0_clear_24 ?_
      refine fm_iconst dX0_clear_25 ?_
      refine pf_0_4 dX0_clear_26 fd_X0_26 ?_
      exact fm_vretN dX0_clear_29 rfl (by rw [show z.toNat = 6 by omega])
    · exfalso; omega
  | succ d ih =>
    intro z h0 hz
    refine fm_ild1 dX0_clear_2 ?_
    refine fm_bipush (by decide) dX0_clear_3 ?_
    refine fm_icmp_ge (⟨by omega, by omega⟩) (⟨by omega, by omega⟩) 24 dX0_clear_5 (by decide) (fun h5 => ?_) (fun h5 => ?_)
    · exfalso; omega
    · refine fm_ald0 dX0_clear_8 ?_
      refine gr_0_0 dX0_clear_9 fd_X0_11 ?_
      refine fm_ild1 dX0_clear_12 ?_
      refine ar_19 (by omega) (by omega) dX0_clear_13 ?_
      refine fm_iconst dX0_clear_14 ?_
      refine fm_csN dX0_clear_15 cl_X0_30 (k_fill (ia_wt (c := z.toNat) (by omega))) rfl rfl (by decide) rfl rfl (Nat.le_of_ble_eq_true rfl) (fun s15 q15 => ?_)
      subst q15
      refine fm_inc1 rfl dX0_clear_18 ?_
      refine fm_goto 2 dX0_clear_21 (by decide) ?_
      have e : fm_fl (cu_cl σ z.toNat) (51 + z.toNat) 6 0 = cu_cl σ (z + 1).toNat := by
        funext a b
        simp only [cu_cl, fm_fl]
        by_cases h1 : a = 51 + z.toNat ∧ b < 6
        · rw [if_pos h1, if_pos (by omega)]
        · rw [if_neg h1]
          by_cases h2 : 51 ≤ a ∧ a < 51 + z.toNat ∧ b < 6
          · rw [if_pos h2, if_pos (by omega)]
          · rw [if_neg h2, if_neg (by omega)]
      rw [e]
      exact ih (z + 1) (by omega) (by omega)
set_option maxRecDepth 20000 in
set_option maxHeartbeats 4000000 in
theorem k_X0_clear {ω : fm_O} {σ : fm_Mem}  : fm_Met kc ω yX0_clear cX0_clear 2 none (fm_rm 1) [fm_r ω 18] σ (fm_pN fun σ' => σ' = fm_up (cu_cl σ 6) 18 4 0) := by
  refine fm_start (by decide) rfl (Nat.le_of_ble_eq_true rfl) [some (fm_r ω 18), none] rfl (fun Γ => ?_)
  refine fm_iconst dX0_clear_0 ?_
  refine fm_ist1 rfl dX0_clear_1 ?_
  have h := l_clear (ω := ω) (σ := σ) (Γ := Γ) 6 0 (by omega) (by omega)
  rw [show cu_cl σ (0 : Int).toNat = σ by funext a b; simp [cu_cl]; omega] at h
  exact h
