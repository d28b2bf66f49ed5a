def fm_mv (σ : fm_Mem) (k sp dp n : Nat) : fm_Mem := fun a b => if a = k ∧ dp ≤ b ∧ b < dp + n then σ k (sp + (b - dp)) else σ a b
theorem fm_e_ne {S : fm_Sh} {ct : Nat → ClassId} {ad : Nat → Nat} {σ σ' : fm_Mem} {i : Nat} (h : ∀ b, σ' i b = σ i b) : fm_e S ct ad σ' i = fm_e S ct ad σ i := by
  unfold fm_e
  cases S.2.1 i with
  | inl n => simp [h]
  | inr x =>
    cases x with
    | inl y => rfl
    | inr c => simp [h]
section FMX
variable {S : fm_Sh} {ω : fm_O} {Γ : fm_G} {M : fm_M} {P : Option Value → fm_Mem → Prop} {σ : fm_Mem} {pc : Nat} {L : List (Option Value)} {st : List Value}
theorem fm_acopy {idx k n0 : Nat} {sp dp n : Int} (hd : decode M.1 pc = .ok (.invokestatic idx, 3)) (c1 : Cond.methodLink M.2.1 idx arraycopyName ∈ fm_T) (c2 : Cond.native arraycopyName ∈ fm_T) (c3 : Cond.static arraycopyName ∈ fm_T) (c4 : Cond.initialized "java/lang/System" ∈ fm_T) (ha : fm_ia S k n0) (h1 : 0 ≤ sp) (h2 : 0 ≤ dp) (h3 : 0 ≤ n) (h4 : sp + n ≤ n0) (h5 : dp + n ≤ n0) (hf : 1 ≤ M.2.2.1.frames) (hR : (st.map fun v => v.category).sum + (nativeFrameWords "java/lang/System" "arraycopy" 5 + 11) ≤ M.2.2.1.locals)
    (kk : fm_W S ω Γ M P (fm_mv σ k sp.toNat dp.toNat n.toNat) (pc + 3) L st) : fm_W S ω Γ M P σ pc L (fm_I n :: fm_I dp :: fm_r ω k :: fm_I sp :: fm_r ω k :: st) := by
  intro C hL H locs ls hP hS hl
  obtain ⟨hx, hb, hml, hown, hts, hr, hlk, hK, hD⟩ := id C
  have he := fm_ws_at (S := S) (ct := ω.2.2.1) (ad := ω.2.2.2) (σ := σ) ha.1
  rw [fm_e_ia ha] at he
  have hn := ha.2.2
  have z : ∀ {x : Int}, 0 ≤ x → x < 2147483648 → ¬ Int32.ofInt x < 0 := fun {x} h h2 => by rw [fm_nat h h2]; exact nI_pos (by omega)
  have s1 := fm_clamp h1 (show sp < 2147483648 by omega)
  have s2 := fm_clamp h2 (show dp < 2147483648 by omega)
  have s3 := fm_clamp h3 (show n < 2147483648 by omega)
  refine va_copyi hx hb (hml.trans (hL.symm.trans hl.1.symm)) hown (hts _ c1) (hts _ c2) (hts _ c3) (hts _ c4) hK hP (fm_D hD (fun k hk => ⟨k, hk, rfl⟩)) hS k k 0 0 (ty := .int) he he rfl rfl rfl (z h1 (by omega)) (z h2 (by omega)) (z h3 (by omega)) (by rw [s1, s3]; omega) (by rw [s2, s3]; omega) (fun i hi => rfl) hf hR hd (fun H1 locs1 hP1 hD1 hS1 => ?_)
  refine kk C hL H1 locs1 ls ?_ hS1 hl
  rw [s1, s2, s3] at hP1
  rw [fm_ws_set (σ' := fm_mv σ k sp.toNat dp.toNat n.toNat) ha.1 ?_ (fun i hi => fm_e_ne (fun b => by simp [fm_mv, hi]))] at hP1
  · exact hP1
  · rw [fm_e_ia ha]
    congr 4
    funext j
    simp only [va_cpy, fm_mv]
    by_cases hj : dp.toNat ≤ j ∧ j < dp.toNat + n.toNat
    · rw [if_pos hj, if_pos ⟨trivial, hj⟩]
    · rw [if_neg hj, if_neg (fun q => hj q.2)]
theorem fm_alen {k n : Nat} (hd : decode M.1 pc = .ok (.arraylength, 1)) (ha : fm_ia S k n) (kk : fm_W S ω Γ M P σ (pc + 1) L (fm_I (n : Int) :: st)) : fm_W S ω Γ M P σ pc L (fm_r ω k :: st) := by
  intro C hL H locs ls hP hS hl
  obtain ⟨hx, hb, hml, hown, hts, hr, hlk, hK, hD⟩ := id C
  have he := fm_ws_at (S := S) (ct := ω.2.2.1) (ad := ω.2.2.2) (σ := σ) ha.1
  rw [fm_e_ia ha] at he
  have hn := ha.2.2
  exact va_alen hx hb hK hP k 0 he (ty := .int) rfl (v := Int32.ofInt (n : Int)) (by show Int32.ofNat n = _; rw [fm_nat (by omega) (by omega)]; rfl) hd (kk C hL H locs ls hP hS hl)
end FMX

theorem ac_1 : Cond.methodLink RX6 28 arraycopyName ∈ fm_T := fm_mem 334 (by decide +kernel) rfl
theorem ac_2 : Cond.native arraycopyName ∈ fm_T := fm_mem 336 (by decide +kernel) rfl
theorem ac_3 : Cond.static arraycopyName ∈ fm_T := fm_mem 335 (by decide +kernel) rfl
theorem ac_4 : Cond.initialized "java/lang/System" ∈ fm_T := fm_mem 53 (by decide +kernel) rfl
theorem fm_mv_ne {σ : fm_Mem} {k sp dp n a b : Nat} (h : a ≠ k) : fm_mv σ k sp dp n a b = σ a b := by simp [fm_mv, h]
set_option maxRecDepth 20000 in
set_option maxHeartbeats 4000000 in
theorem k_X6_dropOldest {ω : fm_O} {σ : fm_Mem} (h0 : 1 ≤ σ 23 3) (h1 : σ 23 3 ≤ 30) : fm_Met kc ω yX6_dropOldest cX6_dropOldest 1 none (fm_rm 2) [fm_r ω 23] σ (fm_pN fun σ' => σ' = fm_mv (fm_mv (fm_mv (fm_up σ 23 3 (σ 23 3 - 1)) 24 1 0 (σ 23 3 - 1).toNat) 25 1 0 (σ 23 3 - 1).toNat) 26 1 0 (σ 23 3 - 1).toNat) := by
  refine fm_start (by decide) rfl (Nat.le_of_ble_eq_true rfl) [some (fm_r ω 23)] rfl (fun Γ => ?_)
  refine fm_ald0 dX6_dropOldest_0 ?_
  refine fm_dupR dX6_dropOldest_1 ?_
  refine gi_6_3 dX6_dropOldest_2 fd_X6_21 ?_
  try simp (disch := omega) only [fm_up_ne, fm_up_nj, fm_up_eq, fm_mv_ne]
  refine fm_iconst dX6_dropOldest_5 ?_
  refine fm_isub dX6_dropOldest_6 ?_
  refine pf_6_3 dX6_dropOldest_7 fd_X6_21 ?_
  refine fm_ald0 dX6_dropOldest_10 ?_
  refine gr_6_0 dX6_dropOldest_11 fd_X6_9 ?_
  refine fm_iconst dX6_dropOldest_14 ?_
  refine fm_ald0 dX6_dropOldest_15 ?_
  refine gr_6_0 dX6_dropOldest_16 fd_X6_9 ?_
  refine fm_iconst dX6_dropOldest_19 ?_
  refine fm_ald0 dX6_dropOldest_20 ?_
  refine gi_6_3 dX6_dropOldest_21 fd_X6_21 ?_
  try simp (disch := omega) only [fm_up_ne, fm_up_nj, fm_up_eq, fm_mv_ne]
  refine fm_acopy dX6_dropOldest_24 ac_1 ac_2 ac_3 ac_4 ia_24 (by omega) (by omega) (by omega) (by omega) (by omega) (by decide) (Nat.le_of_ble_eq_true rfl) ?_
  refine fm_ald0 dX6_dropOldest_27 ?_
  refine gr_6_1 dX6_dropOldest_28 fd_X6_15 ?_
  refine fm_iconst dX6_dropOldest_31 ?_
  refine fm_ald0 dX6_dropOldest_32 ?_
  refine gr_6_1 dX6_dropOldest_33 fd_X6_15 ?_
  refine fm_iconst dX6_dropOldest_36 ?_
  refine fm_ald0 dX6_dropOldest_37 ?_
  refine gi_6_3 dX6_dropOldest_38 fd_X6_21 ?_
  try simp (disch := omega) only [fm_up_ne, fm_up_nj, fm_up_eq, fm_mv_ne]
  refine fm_acopy dX6_dropOldest_41 ac_1 ac_2 ac_3 ac_4 ia_25 (by omega) (by omega) (by omega) (by omega) (by omega) (by decide) (Nat.le_of_ble_eq_true rfl) ?_
  refine fm_ald0 dX6_dropOldest_44 ?_
  refine gr_6_2 dX6_dropOldest_45 fd_X6_18 ?_
  refine fm_iconst dX6_dropOldest_48 ?_
  refine fm_ald0 dX6_dropOldest_49 ?_
  refine gr_6_2 dX6_dropOldest_50 fd_X6_18 ?_
  refine fm_iconst dX6_dropOldest_53 ?_
  refine fm_ald0 dX6_dropOldest_54 ?_
  refine gi_6_3 dX6_dropOldest_55 fd_X6_21 ?_
  try simp (disch := omega) only [fm_up_ne, fm_up_nj, fm_up_eq, fm_mv_ne]
  refine fm_acopy dX6_dropOldest_58 ac_1 ac_2 ac_3 ac_4 ia_26 (by omega) (by omega) (by omega) (by omega) (by omega) (by decide) (Nat.le_of_ble_eq_true rfl) ?_
  exact fm_vretN dX6_dropOldest_61 rfl rfl
def st_drop (σ : fm_Mem) : fm_Mem := if σ 23 3 = 30 then fm_mv (fm_mv (fm_mv (fm_up σ 23 3 29) 24 1 0 29) 25 1 0 29) 26 1 0 29 else σ
theorem st_drop_n {σ : fm_Mem} (h0 : 0 ≤ σ 23 3) (h1 : σ 23 3 ≤ 30) : 0 ≤ st_drop σ 23 3 ∧ st_drop σ 23 3 ≤ 29 := by
  unfold st_drop
  split
  · simp [fm_mv, fm_up]
  · omega
def st_keep (σ : fm_Mem) (c i v : Int) : fm_Mem := fm_up (fm_up (fm_up (fm_up (st_drop σ) 24 (st_drop σ 23 3).toNat c) 25 (st_drop σ 23 3).toNat i) 26 (st_drop σ 23 3).toNat v) 23 3 (st_drop σ 23 3 + 1)
set_option maxRecDepth 20000 in
set_option maxHeartbeats 4000000 in
theorem k_X6_keep {ω : fm_O} {σ : fm_Mem} {c i v : Int} (h0 : 0 ≤ σ 23 3) (h1 : σ 23 3 ≤ 30) : fm_Met kc ω yX6_keep cX6_keep 4 none (fm_rm 3) [fm_r ω 23, fm_I c, fm_I i, fm_I v] σ (fm_pN fun σ' => σ' = st_keep σ c i v) := by
  refine fm_start (by decide) rfl (Nat.le_of_ble_eq_true rfl) [some (fm_r ω 23), some (fm_I c), some (fm_I i), some (fm_I v)] rfl (fun Γ => ?_)
  have hJ : fm_W kc ω Γ (cX6_keep, RX6, fm_rm 3, 4, none) (fm_pN fun σ' => σ' = st_keep σ c i v) (st_drop σ) 13 [some (fm_r ω 23), some (fm_I c), some (fm_I i), some (fm_I v)] [] := by
    obtain ⟨h2, h3⟩ := st_drop_n h0 h1
    unfold st_keep
    generalize st_drop σ = τ at h2 h3 ⊢
    refine fm_ald0 dX6_keep_13 ?_
    refine gr_6_0 dX6_keep_14 fd_X6_9 ?_
    refine fm_ald0 dX6_keep_17 ?_
    refine gi_6_3 dX6_keep_18 fd_X6_21 ?_
    try simp (disch := omega) only [fm_up_ne, fm_up_nj, fm_up_eq]
    refine fm_ild1 dX6_keep_21 ?_
    refine fm_iast dX6_keep_22 ia_24 (by omega) (by omega) ?_
    refine fm_ald0 dX6_keep_23 ?_
    refine gr_6_1 dX6_keep_24 fd_X6_15 ?_
    refine fm_ald0 dX6_keep_27 ?_
    refine gi_6_3 dX6_keep_28 fd_X6_21 ?_
    try simp (disch := omega) only [fm_up_ne, fm_up_nj, fm_up_eq]
    refine fm_ild2 dX6_keep_31 ?_
    refine fm_iast dX6_keep_32 ia_25 (by omega) (by omega) ?_
    refine fm_ald0 dX6_keep_33 ?_
    refine gr_6_2 dX6_keep_34 fd_X6_18 ?_
    refine fm_ald0 dX6_keep_37 ?_
    refine gi_6_3 dX6_keep_38 fd_X6_21 ?_
    try simp (disch := omega) only [fm_up_ne, fm_up_nj, fm_up_eq]
    refine fm_ild3 dX6_keep_41 ?_
    refine fm_iast dX6_keep_42 ia_26 (by omega) (by omega) ?_
    refine fm_ald0 dX6_keep_43 ?_
    refine fm_dupR dX6_keep_44 ?_
    refine gi_6_3 dX6_keep_45 fd_X6_21 ?_
    try simp (disch := omega) only [fm_up_ne, fm_up_nj, fm_up_eq]
    refine fm_iconst dX6_keep_48 ?_
    refine fm_iadd dX6_keep_49 ?_
    refine pf_6_3 dX6_keep_50 fd_X6_21 ?_
    exact fm_vretN dX6_keep_53 rfl rfl
  refine fm_ald0 dX6_keep_0 ?_
  refine gi_6_3 dX6_keep_1 fd_X6_21 ?_
  refine fm_bipush (by decide) dX6_keep_4 ?_
  refine fm_icmp_ne (⟨by omega, by omega⟩) (⟨by omega, by omega⟩) 13 dX6_keep_6 (by decide) (fun h6 => ?_) (fun h6 => ?_)
  · unfold st_drop at hJ
    rw [if_neg h6] at hJ
    exact hJ
  · refine fm_ald0 dX6_keep_9 ?_
    refine fm_cvN dX6_keep_10 cl_X6_25 (k_X6_dropOldest (by omega) (by omega)) ob_23 rfl rfl (by decide) rfl rfl (Nat.le_of_ble_eq_true rfl) (fun s10 q10 => ?_)
    subst q10
    unfold st_drop at hJ
    rw [if_pos h6] at hJ
    rw [h6]
    exact hJ
