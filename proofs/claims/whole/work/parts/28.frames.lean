/-! frames: sixteen bits each -/
def ckn (v : Int64) (j : Nat) : Nat := v.toBitVec.toNat / 2 ^ (16 * j) % 65536
def ck (v : Int64) (j : Nat) : Int := (ckn v j : Int)
theorem ck_b (v : Int64) (j : Nat) : 0 ≤ ck v j ∧ ck v j < 65536 := by
  unfold ck ckn
  have := Nat.mod_lt (v.toBitVec.toNat / 2 ^ (16 * j)) (show 65536 > 0 by omega)
  omega
theorem l2i_n (x : Int64) : x.toInt32.toBitVec.toNat = x.toBitVec.toNat % 2 ^ 32 := by
  rw [Int64.toBitVec_toInt32, BitVec.signExtend_eq_setWidth_of_le _ (by omega), BitVec.toNat_setWidth]
theorem bit_u {v : Int64} {y : Int} {j : Nat} (hj : j < 4) (hy : y = 16 * (j : Int)) : (v.toUInt64 >>> ((Int32.ofInt y).toInt64.toUInt64 &&& Int64.toUInt64 63)).toInt64.toInt32 &&& Int32.ofInt 65535 = Int32.ofInt (ck v j) := by
  rw [pk_and _ 16 (by decide)]
  unfold ck
  rw [fm_nn (by have := ck_b v j; unfold ck at this; omega)]
  congr 1
  have e : (v.toUInt64 >>> ((Int32.ofInt y).toInt64.toUInt64 &&& Int64.toUInt64 63)).toInt64.toInt32.toBitVec.toNat = v.toBitVec.toNat / 2 ^ (16 * j) % 2 ^ 32 := by
    have e1 : (v.toUInt64 >>> ((Int32.ofInt y).toInt64.toUInt64 &&& Int64.toUInt64 63)).toInt64.toInt32.toBitVec.toNat = (v.toUInt64 >>> ((Int32.ofInt y).toInt64.toUInt64 &&& Int64.toUInt64 63)).toNat % 2 ^ 32 := by rw [l2i_n]; rfl
    rw [e1, UInt64.toNat_shiftRight, Nat.shiftRight_eq_div_pow]
    have e2 : ((Int32.ofInt y).toInt64.toUInt64 &&& Int64.toUInt64 63).toNat % 64 = 16 * j := by
      subst hy
      rcases (show j = 0 ∨ j = 1 ∨ j = 2 ∨ j = 3 by omega) with rfl | rfl | rfl | rfl <;> decide
    rw [e2]
    rfl
  rw [e]
  unfold ckn
  omega
theorem bit_s {v : Int64} {y : Int} {j : Nat} (hj : j < 4) (hy : y = 16 * (j : Int)) : ((v >>> ((Int32.ofInt y).toInt64 &&& 63)) &&& 65535).toInt32 = Int32.ofInt (ck v j) := by
  unfold ck
  rw [fm_nn (by have := ck_b v j; unfold ck at this; omega)]
  apply Int32.toBitVec_inj.mp
  apply BitVec.eq_of_toNat_eq
  rw [pk_tn (by have := ck_b v j; unfold ck at this; omega)]
  have e1 : ((v >>> ((Int32.ofInt y).toInt64 &&& 63)) &&& 65535).toInt32.toBitVec.toNat = ((v >>> ((Int32.ofInt y).toInt64 &&& 63)).toBitVec.toNat &&& 65535) % 2 ^ 32 := by rw [l2i_n, Int64.toBitVec_and, BitVec.toNat_and]; rfl
  rw [e1, show (65535 : Nat) = 2 ^ 16 - 1 from rfl, Nat.and_two_pow_sub_one_eq_mod]
  have e3 : (v >>> ((Int32.ofInt y).toInt64 &&& 63)).toBitVec = v.toBitVec.sshiftRight (16 * j) := by
    rw [Int64.toBitVec_shiftRight]
    have e2 : (((Int32.ofInt y).toInt64 &&& 63).toBitVec.smod 64).toNat = 16 * j := by
      subst hy
      rcases (show j = 0 ∨ j = 1 ∨ j = 2 ∨ j = 3 by omega) with rfl | rfl | rfl | rfl <;> decide
    show v.toBitVec.sshiftRight _ = _
    rw [e2]
  rw [e3]
  have e4 : (v.toBitVec.sshiftRight (16 * j)).toNat % 2 ^ 16 = v.toBitVec.toNat / 2 ^ (16 * j) % 2 ^ 16 := by
    apply Nat.eq_of_testBit_eq
    intro i
    rw [Nat.testBit_mod_two_pow, Nat.testBit_mod_two_pow, Nat.testBit_div_two_pow]
    by_cases h : i < 16
    · have : (v.toBitVec.sshiftRight (16 * j)).toNat.testBit i = v.toBitVec.toNat.testBit (i + 16 * j) := by
        rw [← BitVec.getLsbD, ← BitVec.getLsbD, BitVec.getLsbD_sshiftRight, if_pos (by omega)]
        rw [decide_eq_false (show ¬ 64 ≤ i by omega), Bool.not_false, Bool.true_and, Nat.add_comm]
      rw [this]
    · simp [h]
  rw [e4]
  unfold ckn
  omega
abbrev tok (v : Int64) (j : Nat) : Prop := ck v j % 32 = 0 ∧ ck v j / 64 % 16 ≤ 9
def lyn (μ : fm_Mem) (c : Int) (v : Int64) (n : Nat) : Nat → fm_Mem
  | 0 => μ
  | k + 1 => lay (lyn μ c v n k) c (ck v (n - 1 - k) / 1024) (ck v (n - 1 - k) / 64 % 16) (ck v (n - 1 - k) / 32 % 2)
def sp_frames (μ : fm_Mem) (c n : Int) (v : Int64) : Int × fm_Mem := if ¬ (isC μ c ∧ inR n 1 4 ∧ ∀ j, j < n.toNat → tok v j) then (-1, μ) else if 40 < μ 1 c.toNat + n then (-3, μ) else (μ 1 c.toNat + n, lyn μ c v n.toNat n.toNat)
theorem lyn_n {μ : fm_Mem} {c : Int} {v : Int64} {n : Nat} : ∀ k, lyn μ c v n k 1 c.toNat = μ 1 c.toNat + k ∧ lyn μ c v n k 0 0 = μ 0 0
  | 0 => by rw [lyn]; omega
  | k + 1 => by
    obtain ⟨h1, h2⟩ := lyn_n (μ := μ) (c := c) (v := v) (n := n) k
    rw [lyn]
    unfold lay
    refine ⟨by rw [fm_up_eq, h1]; omega, ?_⟩
    simp (disch := omega) only [fm_up_ne]
    exact h2
theorem lyn_fj {μ : fm_Mem} (hi : fj μ) {c : Int} {v : Int64} {n : Nat} (hc : 0 ≤ c ∧ c < μ 0 0) (hn : μ 1 c.toNat + n ≤ 40) (ht : ∀ j, j < n → tok v j) : ∀ k, k ≤ n → fj (lyn μ c v n k)
  | 0, _ => hi
  | k + 1, hk => by
    obtain ⟨h1, h2⟩ := lyn_n (μ := μ) (c := c) (v := v) (n := n) k
    have hb := ck_b v (n - 1 - k)
    have ht2 := ht (n - 1 - k) (by omega)
    rw [lyn]
    exact fj_lay (lyn_fj hi hc hn ht k (by omega)) (by rw [h2]; exact hc) (by rw [h1]; omega) (by omega) (by omega) (by omega)
theorem fm_Wmono {S : fm_Sh} {ω : fm_O} {Γ : fm_G} {M : fm_M} {P P' : Option Value → fm_Mem → Prop} {σ : fm_Mem} {pc : Nat} {L : List (Option Value)} {st : List Value} (h : ∀ v s, P v s → P' v s) (k : fm_W S ω Γ M P σ pc L st) : fm_W S ω Γ M P' σ pc L st := by
  intro C hL H locs ls hP hS hl T hT X
  obtain ⟨t, a1, o, b1, b2, ⟨v, s, c1, c2, c3, c4⟩, b3⟩ := k C hL H locs ls hP hS hl T hT X
  exact ⟨t, a1, o, b1, b2, ⟨v, s, c1, h v s c2, c3, c4⟩, b3⟩
set_option maxRecDepth 20000 in
set_option maxHeartbeats 4000000 in
theorem k_X7_bitsOf {ω : fm_O} {σ : fm_Mem} {n k : Int} {v : Int64} (hn : 1 ≤ n ∧ n ≤ 4) (hk : 0 ≤ k ∧ k < n) : fm_Met kc ω yX7_bitsOf cX7_bitsOf 4 (some .int) (fm_rm 0) [fm_I n, .long v, fm_I k] σ (fm_pI fun z σ' => z = ck v (n - 1 - k).toNat ∧ σ = σ') := by
  refine fm_start (by decide) rfl (Nat.le_of_ble_eq_true rfl) [some (fm_I n), some (.long v), none, some (fm_I k)] rfl (fun Γ => ?_)
  refine fm_lld1 dX7_bitsOf_0 ?_
  refine fm_bipush (by decide) dX7_bitsOf_1 ?_
  refine fm_ild0 dX7_bitsOf_3 ?_
  refine fm_iconst dX7_bitsOf_4 ?_
  refine fm_isub dX7_bitsOf_5 ?_
  refine fm_ild3 dX7_bitsOf_6 ?_
  refine fm_isub dX7_bitsOf_7 ?_
  refine fm_imul dX7_bitsOf_8 ?_
  refine fm_lushr _ rfl dX7_bitsOf_9 ?_
  refine fm_l2i _ (fm_asI _).symm dX7_bitsOf_10 ?_
  refine fm_ldc (n := 65535) ck_X7_19 (by decide) dX7_bitsOf_11 ?_
  refine fm_iand (ck v (n - 1 - k).toNat) (by rw [fm_asI]; exact bit_u (by omega) (by omega)) dX7_bitsOf_13 ?_
  exact fm_iretI dX7_bitsOf_14 rfl ⟨rfl, rfl⟩
set_option maxRecDepth 20000 in
set_option maxHeartbeats 4000000 in
theorem k_X7_markIn {ω : fm_O} {σ : fm_Mem} {b : Int} (hb : 0 ≤ b ∧ b < 65536) : fm_Met kc ω yX7_markIn cX7_markIn 1 (some .int) (fm_rm 0) [fm_I b] σ (fm_pI fun z σ' => z = b / 1024 ∧ σ = σ') := by
  refine fm_start (by decide) rfl (Nat.le_of_ble_eq_true rfl) [some (fm_I b)] rfl (fun Γ => ?_)
  refine fm_ild0 dX7_markIn_0 ?_
  refine fm_bipush (by decide) dX7_markIn_1 ?_
  refine fm_ishr (b / 1024) (fm_shrL 10 _ (by decide) (by decide) (by omega) (by omega)) dX7_markIn_3 ?_
  exact fm_iretI dX7_markIn_4 rfl ⟨rfl, rfl⟩
set_option maxRecDepth 20000 in
set_option maxHeartbeats 4000000 in
theorem k_X7_wearIn {ω : fm_O} {σ : fm_Mem} {b : Int} (hb : 0 ≤ b ∧ b < 65536) : fm_Met kc ω yX7_wearIn cX7_wearIn 1 (some .int) (fm_rm 0) [fm_I b] σ (fm_pI fun z σ' => z = b / 64 % 16 ∧ σ = σ') := by
  refine fm_start (by decide) rfl (Nat.le_of_ble_eq_true rfl) [some (fm_I b)] rfl (fun Γ => ?_)
  refine fm_ild0 dX7_wearIn_0 ?_
  refine fm_bipush (by decide) dX7_wearIn_1 ?_
  refine fm_ishr (b / 64) (fm_shrL 6 _ (by decide) (by decide) (by omega) (by omega)) dX7_wearIn_3 ?_
  refine fm_bipush (by decide) dX7_wearIn_4 ?_
  refine fm_iand (b / 64 % 16) (fm_andL 4 _ (by decide) (by decide) (by omega) (by omega)) dX7_wearIn_6 ?_
  exact fm_iretI dX7_wearIn_7 rfl ⟨rfl, rfl⟩
set_option maxRecDepth 20000 in
set_option maxHeartbeats 4000000 in
theorem k_X7_cameraIn {ω : fm_O} {σ : fm_Mem} {b : Int} (hb : 0 ≤ b ∧ b < 65536) : fm_Met kc ω yX7_cameraIn cX7_cameraIn 1 (some .int) (fm_rm 0) [fm_I b] σ (fm_pI fun z σ' => z = b / 32 % 2 ∧ σ = σ') := by
  refine fm_start (by decide) rfl (Nat.le_of_ble_eq_true rfl) [some (fm_I b)] rfl (fun Γ => ?_)
  refine fm_ild0 dX7_cameraIn_0 ?_
  refine fm_iconst dX7_cameraIn_1 ?_
  refine fm_ishr (b / 32) (fm_shrL 5 _ (by decide) (by decide) (by omega) (by omega)) dX7_cameraIn_2 ?_
  refine fm_iconst dX7_cameraIn_3 ?_
  refine fm_iand (b / 32 % 2) (fm_andL 1 _ (by decide) (by decide) (by omega) (by omega)) dX7_cameraIn_4 ?_
  exact fm_iretI dX7_cameraIn_5 rfl ⟨rfl, rfl⟩
set_option maxRecDepth 20000 in
set_option maxHeartbeats 4000000 in
theorem l_told {ω : fm_O} {σ : fm_Mem} {Γ : fm_G} {n : Int} {v : Int64} (hn : 1 ≤ n ∧ n ≤ 4) : ∀ (d : Nat) (k : Int) (o4 : Option Value), 0 ≤ k → k + d = n → (∀ j, j < n.toNat → (n - k).toNat ≤ j → tok v j) → fm_W kc ω Γ (cX7_isTold, RX7, fm_rm 1, 5, (some .boolean)) (fm_pI fun z σ' => ((∀ j, j < n.toNat → tok v j) ∧ z = 1 ∨ ¬ (∀ j, j < n.toNat → tok v j) ∧ z = 0) ∧ σ = σ') σ 2 [some (fm_I n), some (.long v), none, some (fm_I k), o4] [] := by
  intro d
  induction d with
  | zero =>
    intro k o4 h0 hk ht
    refine fm_ild3 dX7_isTold_2 ?_
    refine fm_ild0 dX7_isTold_3 ?_
    refine fm_icmp_ge (⟨by omega, by omega⟩) (⟨by omega, by omega⟩) 41 dX7_isTold_4 (by decide) (fun h4 => ?_) (fun h4 => ?_)
    · refine fm_iconst dX7_isTold_41 ?_
      exact fm_zretI dX7_isTold_42 rfl (by omega) ⟨Or.inl ⟨fun j hj => ht j hj (by omega), rfl⟩, rfl⟩
    · exfalso; omega
  | succ d ih =>
    intro k o4 h0 hk ht
    have cb := ck_b v (n - 1 - k).toNat
    refine fm_ild3 dX7_isTold_2 ?_
    refine fm_ild0 dX7_isTold_3 ?_
    refine fm_icmp_ge (⟨by omega, by omega⟩) (⟨by omega, by omega⟩) 41 dX7_isTold_4 (by decide) (fun h4 => ?_) (fun h4 => ?_)
    · exfalso; omega
    · refine fm_ild0 dX7_isTold_7 ?_
      refine fm_lld1 dX7_isTold_8 ?_
      refine fm_ild3 dX7_isTold_9 ?_
      refine fm_csI dX7_isTold_10 cl_X7_9 (k_X7_bitsOf hn (by omega)) rfl rfl (by decide) rfl rfl (Nat.le_of_ble_eq_true rfl) (fun z10 s10 q10 => ?_)
      obtain ⟨rfl, rfl⟩ := q10
      refine fm_ist4 rfl dX7_isTold_13 ?_
      refine fm_ild4 dX7_isTold_15 ?_
      refine fm_bipush (by decide) dX7_isTold_17 ?_
      refine fm_iand (ck v (n - 1 - k).toNat % 32) (fm_andL 5 _ (by decide) (by decide) (by omega) (by omega)) dX7_isTold_19 ?_
      refine fm_if_ne (⟨by omega, by omega⟩) 33 dX7_isTold_20 (by decide) (fun h20 => ?_) (fun h20 => ?_)
      · refine fm_iconst dX7_isTold_33 ?_
        exact fm_zretI dX7_isTold_34 rfl (by omega) ⟨Or.inr ⟨fun q => by have := q (n - 1 - k).toNat (by omega); omega, rfl⟩, rfl⟩
      · refine fm_ild4 dX7_isTold_23 ?_
        refine fm_csI dX7_isTold_25 cl_X7_15 (k_X7_wearIn (by omega)) rfl rfl (by decide) rfl rfl (Nat.le_of_ble_eq_true rfl) (fun z25 s25 q25 => ?_)
        obtain ⟨rfl, rfl⟩ := q25
        refine fm_bipush (by decide) dX7_isTold_28 ?_
        refine fm_icmp_le (⟨by omega, by omega⟩) (⟨by omega, by omega⟩) 35 dX7_isTold_30 (by decide) (fun h30 => ?_) (fun h30 => ?_)
        · refine fm_inc3 rfl dX7_isTold_35 ?_
          refine fm_goto 2 dX7_isTold_38 (by decide) ?_
          refine ih (k + 1) _ (by omega) (by omega) (fun j hj hj2 => ?_)
          by_cases e : j = (n - 1 - k).toNat
          · rw [e]; exact ⟨by omega, by omega⟩
          · exact ht j hj (by omega)
        · refine fm_iconst dX7_isTold_33 ?_
          exact fm_zretI dX7_isTold_34 rfl (by omega) ⟨Or.inr ⟨fun q => by have := q (n - 1 - k).toNat (by omega); omega, rfl⟩, rfl⟩
set_option maxRecDepth 20000 in
set_option maxHeartbeats 4000000 in
theorem k_X7_isTold {ω : fm_O} {σ : fm_Mem} {n : Int} {v : Int64} (hn : 1 ≤ n ∧ n ≤ 4) : fm_Met kc ω yX7_isTold cX7_isTold 5 (some .boolean) (fm_rm 1) [fm_I n, .long v] σ (fm_pI fun z σ' => ((∀ j, j < n.toNat → tok v j) ∧ z = 1 ∨ ¬ (∀ j, j < n.toNat → tok v j) ∧ z = 0) ∧ σ = σ') := by
  refine fm_start (by decide) rfl (Nat.le_of_ble_eq_true rfl) [some (fm_I n), some (.long v), none, none, none] rfl (fun Γ => ?_)
  refine fm_iconst dX7_isTold_0 ?_
  refine fm_ist3 rfl dX7_isTold_1 ?_
  exact l_told hn n.toNat 0 _ (by omega) (by omega) (fun j h1 h2 => by omega)
set_option maxRecDepth 20000 in
set_option maxHeartbeats 4000000 in
theorem l_frames {ω : fm_O} {Γ : fm_G} {μ : fm_Mem} (hi : fj μ) {c n : Int} {v : Int64} (hc : 0 ≤ c ∧ c < μ 0 0) (hn : 1 ≤ n ∧ n ≤ 4) (hm : μ 1 c.toNat + n ≤ 40) (ht : ∀ j, j < n.toNat → tok v j) : ∀ (d : Nat) (k : Int) (τ : fm_Mem) (o7 : Option Value), 0 ≤ k → k + d = n → rel (lyn μ c v n.toNat k.toNat) τ → fm_W kc ω Γ (cX8_frames, RX8, fm_rm 2, 8, (some .int)) (fm_pI fun z σ' => z = μ 1 c.toNat + n ∧ rel (lyn μ c v n.toNat n.toNat) σ') τ 51 [some (fm_r ω 0), some (fm_I c), some (fm_I n), some (.long v), none, some (fm_r ω (27 + c.toNat)), some (fm_I k), o7] [] := by
  have b0 := hi.fi.1
  have bc := hi.fi.2.1 c.toNat (by omega)
  intro d
  induction d with
  | zero =>
    intro k τ o7 h0 hk h
    obtain ⟨z1, z2⟩ := lyn_n (μ := μ) (c := c) (v := v) (n := n.toNat) k.toNat
    have es := (h.1.2 c.toNat (by omega)).1
    refine fm_ild6 dX8_frames_51 ?_
    refine fm_ild2 dX8_frames_53 ?_
    refine fm_icmp_ge (⟨by omega, by omega⟩) (⟨by omega, by omega⟩) 92 dX8_frames_54 (by decide) (fun h54 => ?_) (fun h54 => ?_)
    · refine fm_ald5 dX8_frames_92 ?_
      refine gi_3_3 (by omega) dX8_frames_94 fd_X8_83 ?_
      exact fm_iretI dX8_frames_97 rfl ⟨by rw [es, z1]; omega, by rw [show n.toNat = k.toNat by omega] at h ⊢; exact h⟩
    · exfalso; omega
  | succ d ih =>
    intro k τ o7 h0 hk h
    obtain ⟨z1, z2⟩ := lyn_n (μ := μ) (c := c) (v := v) (n := n.toNat) k.toNat
    have es := (h.1.2 c.toNat (by omega)).1
    have cb := ck_b v (n - 1 - k).toNat
    refine fm_ild6 dX8_frames_51 ?_
    refine fm_ild2 dX8_frames_53 ?_
    refine fm_icmp_ge (⟨by omega, by omega⟩) (⟨by omega, by omega⟩) 92 dX8_frames_54 (by decide) (fun h54 => ?_) (fun h54 => ?_)
    · exfalso; omega
    · refine fm_ild2 dX8_frames_57 ?_
      refine fm_lld3 dX8_frames_58 ?_
      refine fm_ild6 dX8_frames_59 ?_
      refine fm_csI dX8_frames_61 cl_X8_92 (k_X7_bitsOf hn (by omega)) rfl rfl (by decide) rfl rfl (Nat.le_of_ble_eq_true rfl) (fun z61 s61 q61 => ?_)
      obtain ⟨rfl, rfl⟩ := q61
      refine fm_ist7 rfl dX8_frames_64 ?_
      refine fm_ald5 dX8_frames_66 ?_
      refine fm_ild7 dX8_frames_68 ?_
      refine fm_csI dX8_frames_70 cl_X8_96 (k_X7_markIn (by omega)) rfl rfl (by decide) rfl rfl (Nat.le_of_ble_eq_true rfl) (fun z70 s70 q70 => ?_)
      obtain ⟨rfl, rfl⟩ := q70
      refine fm_ild7 dX8_frames_73 ?_
      refine fm_csI dX8_frames_75 cl_X8_100 (k_X7_wearIn (by omega)) rfl rfl (by decide) rfl rfl (Nat.le_of_ble_eq_true rfl) (fun z75 s75 q75 => ?_)
      obtain ⟨rfl, rfl⟩ := q75
      refine fm_ild7 dX8_frames_78 ?_
      refine fm_csI dX8_frames_80 cl_X8_103 (k_X7_cameraIn (by omega)) rfl rfl (by decide) rfl rfl (Nat.le_of_ble_eq_true rfl) (fun z80 s80 q80 => ?_)
      obtain ⟨rfl, rfl⟩ := q80
      refine fm_cvN dX8_frames_83 cl_X8_79 (k_X3_append (by omega) (by omega) (by omega)) (ob_reel (by omega)) rfl rfl (by decide) rfl rfl (Nat.le_of_ble_eq_true rfl) (fun s83 q83 => ?_)
      subst q83
      refine fm_inc6 rfl dX8_frames_86 ?_
      refine fm_goto 51 dX8_frames_89 (by decide) ?_
      refine ih (k + 1) _ _ (by omega) (by omega) ?_
      rw [show (k + 1).toNat = k.toNat + 1 by omega, lyn, show n.toNat - 1 - k.toNat = (n - 1 - k).toNat by omega]
      exact rel_lay h (by omega) (by omega)
set_option maxRecDepth 20000 in
set_option maxHeartbeats 4000000 in
theorem k_X8_frames {ω : fm_O} {σ : fm_Mem} {μ : fm_Mem} (hi : fj μ) (h : rel μ σ) {c n : Int} {v : Int64} (rc : fm_R c) (rn : fm_R n) : fm_Met kc ω yX8_frames cX8_frames 8 (some .int) (fm_rm 2) [fm_r ω 0, fm_I c, fm_I n, .long v] σ (fm_pI fun z σ' => z = (sp_frames μ c n v).1 ∧ rel (sp_frames μ c n v).2 σ') := by
  refine fm_start (by decide) rfl (Nat.le_of_ble_eq_true rfl) [some (fm_r ω 0), some (fm_I c), some (fm_I n), some (.long v), none, none, none, none] rfl (fun Γ => ?_)
  have hf := hi.fi
  have hw := rel.cw hf h
  have e0 := h.1.1
  have b0 := hf.1
  refine fm_ald0 dX8_frames_0 ?_
  refine fm_ild1 dX8_frames_1 ?_
  refine fm_cvI dX8_frames_2 cl_X8_68 (k_X8_isCopy ⟨by omega, by omega⟩ hw) ob_0 rfl rfl (by decide) rfl rfl (Nat.le_of_ble_eq_true rfl) (fun z2 s2 q2 => ?_)
  obtain ⟨q2, rfl⟩ := q2
  refine fm_if_eq (⟨by omega, by omega⟩) 26 dX8_frames_5 (by decide) (fun h5 => ?_) (fun h5 => ?_)
  · refine fm_iconst dX8_frames_26 ?_
    refine fm_iretI dX8_frames_27 rfl ?_
    unfold sp_frames
    first
      | (rw [if_pos (by omega)]; exact ⟨by omega, h⟩)
      | (rw [if_pos (fun q => by rcases q20 with q9 | q9; omega; exact q9.1 q.2.2)]; exact ⟨by omega, h⟩)
      | (rw [if_neg (fun q => q ⟨by omega, by omega, by rcases q20 with q9 | q9; exact q9.1; omega⟩), if_pos (by omega)]; exact ⟨by omega, h⟩)
  · refine fm_ild2 dX8_frames_8 ?_
    refine fm_iconst dX8_frames_9 ?_
    refine fm_icmp_lt (⟨by omega, by omega⟩) (⟨by omega, by omega⟩) 26 dX8_frames_10 (by decide) (fun h10 => ?_) (fun h10 => ?_)
    · refine fm_iconst dX8_frames_26 ?_
      refine fm_iretI dX8_frames_27 rfl ?_
      unfold sp_frames
      first
        | (rw [if_pos (by omega)]; exact ⟨by omega, h⟩)
        | (rw [if_pos (fun q => by rcases q20 with q9 | q9; omega; exact q9.1 q.2.2)]; exact ⟨by omega, h⟩)
        | (rw [if_neg (fun q => q ⟨by omega, by omega, by rcases q20 with q9 | q9; exact q9.1; omega⟩), if_pos (by omega)]; exact ⟨by omega, h⟩)
    · refine fm_ild2 dX8_frames_13 ?_
      refine fm_iconst dX8_frames_14 ?_
      refine fm_icmp_gt (⟨by omega, by omega⟩) (⟨by omega, by omega⟩) 26 dX8_frames_15 (by decide) (fun h15 => ?_) (fun h15 => ?_)
      · refine fm_iconst dX8_frames_26 ?_
        refine fm_iretI dX8_frames_27 rfl ?_
        unfold sp_frames
        first
          | (rw [if_pos (by omega)]; exact ⟨by omega, h⟩)
          | (rw [if_pos (fun q => by rcases q20 with q9 | q9; omega; exact q9.1 q.2.2)]; exact ⟨by omega, h⟩)
          | (rw [if_neg (fun q => q ⟨by omega, by omega, by rcases q20 with q9 | q9; exact q9.1; omega⟩), if_pos (by omega)]; exact ⟨by omega, h⟩)
      · refine fm_ild2 dX8_frames_18 ?_
        refine fm_lld3 dX8_frames_19 ?_
        refine fm_csI dX8_frames_20 cl_X8_86 (k_X7_isTold (by omega)) rfl rfl (by decide) rfl rfl (Nat.le_of_ble_eq_true rfl) (fun z20 s20 q20 => ?_)
        obtain ⟨q20, rfl⟩ := q20
        refine fm_if_ne (⟨by omega, by omega⟩) 28 dX8_frames_23 (by decide) (fun h23 => ?_) (fun h23 => ?_)
        · refine fm_ald0 dX8_frames_28 ?_
          refine gr_7_0 dX8_frames_29 fd_X8_11 ?_
          refine fm_ild1 dX8_frames_32 ?_
          have hs := hf.2.1 c.toNat (by omega)
          have es := (h.1.2 c.toNat (by omega)).1
          refine ar_1 (by omega) (by omega) dX8_frames_33 ?_
          refine fm_ast5 rfl dX8_frames_34 ?_
          refine fm_ald5 dX8_frames_36 ?_
          refine fm_ild2 dX8_frames_38 ?_
          refine fm_cvI dX8_frames_39 cl_X8_76 (k_X3_hasRoomFor (by omega) hw (by omega)) (ob_reel (by omega)) rfl rfl (by decide) rfl rfl (Nat.le_of_ble_eq_true rfl) (fun z39 s39 q39 => ?_)
          obtain ⟨q39, rfl⟩ := q39
          refine fm_if_ne (⟨by omega, by omega⟩) 48 dX8_frames_42 (by decide) (fun h42 => ?_) (fun h42 => ?_)
          · refine fm_iconst dX8_frames_48 ?_
            refine fm_ist6 rfl dX8_frames_49 ?_
            have ht : ∀ j, j < n.toNat → tok v j := by
              rcases q20 with q9 | q9
              · exact q9.1
              · omega
            have hl := l_frames (ω := ω) (Γ := Γ) hi (c := c) (n := n) (v := v) (by omega) (by omega) (by omega) ht n.toNat 0 σ none (by omega) (by omega) h
            unfold sp_frames
            rw [if_neg (fun q => q ⟨by omega, by omega, ht⟩), if_neg (by omega)]
            exact hl
          · refine fm_bipush (by decide) dX8_frames_45 ?_
            refine fm_iretI dX8_frames_47 rfl ?_
            unfold sp_frames
            first
              | (rw [if_pos (by omega)]; exact ⟨by omega, h⟩)
              | (rw [if_pos (fun q => by rcases q20 with q9 | q9; omega; exact q9.1 q.2.2)]; exact ⟨by omega, h⟩)
              | (rw [if_neg (fun q => q ⟨by omega, by omega, by rcases q20 with q9 | q9; exact q9.1; omega⟩), if_pos (by omega)]; exact ⟨by omega, h⟩)
        · refine fm_iconst dX8_frames_26 ?_
          refine fm_iretI dX8_frames_27 rfl ?_
          unfold sp_frames
          first
            | (rw [if_pos (by omega)]; exact ⟨by omega, h⟩)
            | (rw [if_pos (fun q => by rcases q20 with q9 | q9; omega; exact q9.1 q.2.2)]; exact ⟨by omega, h⟩)
            | (rw [if_neg (fun q => q ⟨by omega, by omega, by rcases q20 with q9 | q9; exact q9.1; omega⟩), if_pos (by omega)]; exact ⟨by omega, h⟩)
set_option maxRecDepth 20000 in
set_option maxHeartbeats 4000000 in
theorem l_mf2 {ω : fm_O} {Γ : fm_G} {σ : fm_Mem} (hi : fj σ) {c n : Int} {v : Int64} (hc : 0 ≤ c ∧ c < σ 0 0) (hn : 1 ≤ n ∧ n ≤ 4) (hm : σ 1 c.toNat + n ≤ 40) : ∀ (d : Nat) (k : Int) (o6 : Option Value), k + 1 = d → k < n → fm_W km ω Γ (cX9_frames, RX9, fm_rm 2, 7, (some .int)) (fm_pI fun z σ' => z = σ 1 c.toNat + n ∧ σ' = lyn σ c v n.toNat n.toNat) (lyn σ c v n.toNat (n - 1 - k).toNat) 93 [some (fm_r ω 0), some (fm_I c), some (fm_I n), some (.long v), none, some (fm_I k), o6] [] := by
  have b0 := hi.fi.1
  have bc := hi.fi.2.1 c.toNat (by omega)
  intro d
  induction d with
  | zero =>
    intro k o6 hd hk
    obtain ⟨z1, z2⟩ := lyn_n (μ := σ) (c := c) (v := v) (n := n.toNat) (n - 1 - k).toNat
    refine fm_ild5 dX9_frames_93 ?_
    refine fm_if_lt (⟨by omega, by omega⟩) 142 dX9_frames_95 (by decide) (fun h95 => ?_) (fun h95 => ?_)
    · refine fm_ald0 dX9_frames_142 ?_
      refine gr_8_1 dX9_frames_143 fd_X9_7 ?_
      refine fm_ild1 dX9_frames_146 ?_
      refine fm_iald dX9_frames_147 ma_1 (by omega) (by omega) ?_
      exact fm_iretI dX9_frames_148 rfl ⟨by rw [z1]; omega, by rw [show (n - 1 - k).toNat = n.toNat by omega]⟩
    · exfalso; omega
  | succ d ih =>
    intro k o6 hd hk
    obtain ⟨z1, z2⟩ := lyn_n (μ := σ) (c := c) (v := v) (n := n.toNat) (n - 1 - k).toNat
    have cb := ck_b v k.toNat
    refine fm_ild5 dX9_frames_93 ?_
    refine fm_if_lt (⟨by omega, by omega⟩) 142 dX9_frames_95 (by decide) (fun h95 => ?_) (fun h95 => ?_)
    · exfalso; omega
    · refine fm_lld3 dX9_frames_98 ?_
      refine fm_bipush (by decide) dX9_frames_99 ?_
      refine fm_ild5 dX9_frames_101 ?_
      refine fm_imul dX9_frames_103 ?_
      refine fm_lshr _ rfl dX9_frames_104 ?_
      refine fm_ldc2 ck_X9_89 dX9_frames_105 ?_
      refine fm_land dX9_frames_108 ?_
      refine fm_l2i (ck v k.toNat) (bit_s (by omega) (by omega)) dX9_frames_109 ?_
      refine fm_ist6 rfl dX9_frames_110 ?_
      refine fm_ald0 dX9_frames_112 ?_
      refine fm_ild1 dX9_frames_113 ?_
      refine fm_ild6 dX9_frames_114 ?_
      refine fm_bipush (by decide) dX9_frames_116 ?_
      refine fm_ishr (ck v k.toNat / 1024) (fm_shrL 10 _ (by decide) (by decide) (by omega) (by omega)) dX9_frames_118 ?_
      refine fm_ild6 dX9_frames_119 ?_
      refine fm_bipush (by decide) dX9_frames_121 ?_
      refine fm_ishr (ck v k.toNat / 64) (fm_shrL 6 _ (by decide) (by decide) (by omega) (by omega)) dX9_frames_123 ?_
      refine fm_bipush (by decide) dX9_frames_124 ?_
      refine fm_iand (ck v k.toNat / 64 % 16) (fm_andL 4 _ (by decide) (by decide) (by omega) (by omega)) dX9_frames_126 ?_
      refine fm_ild6 dX9_frames_127 ?_
      refine fm_iconst dX9_frames_129 ?_
      refine fm_ishr (ck v k.toNat / 32) (fm_shrL 5 _ (by decide) (by decide) (by omega) (by omega)) dX9_frames_130 ?_
      refine fm_iconst dX9_frames_131 ?_
      refine fm_iand (ck v k.toNat / 32 % 2) (fm_andL 1 _ (by decide) (by decide) (by omega) (by omega)) dX9_frames_132 ?_
      refine fm_cvN dX9_frames_133 cl_X9_85 (k_X9_lays (by omega) (by omega)) mb_0 rfl rfl (by decide) rfl rfl (Nat.le_of_ble_eq_true rfl) (fun s133 q133 => ?_)
      subst q133
      refine fm_inc5 rfl dX9_frames_136 ?_
      refine fm_goto 93 dX9_frames_139 (by decide) ?_
      have e := ih (k + -1) (some (fm_I (ck v k.toNat))) (by omega) (by omega)
      rw [show (n - 1 - (k + -1)).toNat = (n - 1 - k).toNat + 1 by omega, lyn, show n.toNat - 1 - (n - 1 - k).toNat = k.toNat by omega] at e
      exact e
set_option maxRecDepth 20000 in
set_option maxHeartbeats 4000000 in
theorem l_mf1 {ω : fm_O} {Γ : fm_G} {σ : fm_Mem} (hi : fj σ) {c n : Int} {v : Int64} (hc : 0 ≤ c ∧ c < σ 0 0) (hn : 1 ≤ n ∧ n ≤ 4) : ∀ (d : Nat) (k : Int) (o6 : Option Value), k + 1 = d → k < n → (∀ j, j < n.toNat → k < (j : Int) → tok v j) → fm_W km ω Γ (cX9_frames, RX9, fm_rm 2, 7, (some .int)) (fm_pI fun z σ' => z = (sp_frames σ c n v).1 ∧ sam (sp_frames σ c n v).2 σ') σ 24 [some (fm_r ω 0), some (fm_I c), some (fm_I n), some (.long v), none, some (fm_I k), o6] [] := by
  have b0 := hi.fi.1
  have bc := hi.fi.2.1 c.toNat (by omega)
  intro d
  induction d with
  | zero =>
    intro k o6 hd hk ht
    have ht2 : ∀ j, j < n.toNat → tok v j := fun j hj => ht j hj (by omega)
    refine fm_ild5 dX9_frames_24 ?_
    refine fm_if_lt (⟨by omega, by omega⟩) 72 dX9_frames_26 (by decide) (fun h26 => ?_) (fun h26 => ?_)
    · refine fm_ald0 dX9_frames_72 ?_
      refine gr_8_1 dX9_frames_73 fd_X9_7 ?_
      refine fm_ild1 dX9_frames_76 ?_
      refine fm_iald dX9_frames_77 ma_1 (by omega) (by omega) ?_
      refine fm_ild2 dX9_frames_78 ?_
      refine fm_iadd dX9_frames_79 ?_
      refine fm_bipush (by decide) dX9_frames_80 ?_
      refine fm_icmp_le (⟨by omega, by omega⟩) (⟨by omega, by omega⟩) 88 dX9_frames_82 (by decide) (fun h82 => ?_) (fun h82 => ?_)
      · refine fm_ild2 dX9_frames_88 ?_
        refine fm_iconst dX9_frames_89 ?_
        refine fm_isub dX9_frames_90 ?_
        refine fm_ist5 rfl dX9_frames_91 ?_
        have e := l_mf2 (ω := ω) (Γ := Γ) hi (c := c) (n := n) (v := v) hc hn (by omega) n.toNat (n - 1) o6 (by omega) (by omega)
        rw [show (n - 1 - (n - 1)).toNat = 0 by omega, lyn] at e
        unfold sp_frames
        rw [if_neg (fun q => q ⟨by omega, by omega, ht2⟩), if_neg (by omega)]
        exact fm_Wmono (fun v9 s9 h9 => by obtain ⟨z9, e9, e10, e11⟩ := h9; exact ⟨z9, e9, e10, by rw [e11]; exact sam.rfl⟩) e
      · refine fm_bipush (by decide) dX9_frames_85 ?_
        refine fm_iretI dX9_frames_87 rfl ?_
        unfold sp_frames
        rw [if_neg (fun q => q ⟨by omega, by omega, ht2⟩), if_pos (by omega)]
        exact ⟨by omega, sam.rfl⟩
    · exfalso; omega
  | succ d ih =>
    intro k o6 hd hk ht
    have cb := ck_b v k.toNat
    refine fm_ild5 dX9_frames_24 ?_
    refine fm_if_lt (⟨by omega, by omega⟩) 72 dX9_frames_26 (by decide) (fun h26 => ?_) (fun h26 => ?_)
    · exfalso; omega
    · refine fm_lld3 dX9_frames_29 ?_
      refine fm_bipush (by decide) dX9_frames_30 ?_
      refine fm_ild5 dX9_frames_32 ?_
      refine fm_imul dX9_frames_34 ?_
      refine fm_lshr _ rfl dX9_frames_35 ?_
      refine fm_ldc2 ck_X9_89 dX9_frames_36 ?_
      refine fm_land dX9_frames_39 ?_
      refine fm_l2i (ck v k.toNat) (bit_s (by omega) (by omega)) dX9_frames_40 ?_
      refine fm_ist6 rfl dX9_frames_41 ?_
      refine fm_ild6 dX9_frames_43 ?_
      refine fm_bipush (by decide) dX9_frames_45 ?_
      refine fm_ishr (ck v k.toNat / 64) (fm_shrL 6 _ (by decide) (by decide) (by omega) (by omega)) dX9_frames_47 ?_
      refine fm_bipush (by decide) dX9_frames_48 ?_
      refine fm_iand (ck v k.toNat / 64 % 16) (fm_andL 4 _ (by decide) (by decide) (by omega) (by omega)) dX9_frames_50 ?_
      refine fm_bipush (by decide) dX9_frames_51 ?_
      refine fm_icmp_gt (⟨by omega, by omega⟩) (⟨by omega, by omega⟩) 64 dX9_frames_53 (by decide) (fun h53 => ?_) (fun h53 => ?_)
      · refine fm_iconst dX9_frames_64 ?_
        refine fm_iretI dX9_frames_65 rfl ?_
        unfold sp_frames
        rw [if_pos (fun q => by have := q.2.2 k.toNat (by omega); omega)]
        exact ⟨by omega, sam.rfl⟩
      · refine fm_ild6 dX9_frames_56 ?_
        refine fm_bipush (by decide) dX9_frames_58 ?_
        refine fm_iand (ck v k.toNat % 32) (fm_andL 5 _ (by decide) (by decide) (by omega) (by omega)) dX9_frames_60 ?_
        refine fm_if_eq (⟨by omega, by omega⟩) 66 dX9_frames_61 (by decide) (fun h61 => ?_) (fun h61 => ?_)
        · refine fm_inc5 rfl dX9_frames_66 ?_
          refine fm_goto 24 dX9_frames_69 (by decide) ?_
          refine ih (k + -1) _ (by omega) (by omega) (fun j hj hj2 => ?_)
          by_cases e : j = k.toNat
          · rw [e]; exact ⟨by omega, by omega⟩
          · exact ht j hj (by omega)
        · refine fm_iconst dX9_frames_64 ?_
          refine fm_iretI dX9_frames_65 rfl ?_
          unfold sp_frames
          rw [if_pos (fun q => by have := q.2.2 k.toNat (by omega); omega)]
          exact ⟨by omega, sam.rfl⟩
set_option maxRecDepth 20000 in
set_option maxHeartbeats 4000000 in
theorem k_X9_frames {ω : fm_O} {σ : fm_Mem} (hi : fj σ) {c n : Int} {v : Int64} (rc : fm_R c) (rn : fm_R n) : fm_Met km ω yX9_frames cX9_frames 7 (some .int) (fm_rm 2) [fm_r ω 0, fm_I c, fm_I n, .long v] σ (fm_pI fun z σ' => z = (sp_frames σ c n v).1 ∧ sam (sp_frames σ c n v).2 σ') := by
  refine fm_start (by decide) rfl (Nat.le_of_ble_eq_true rfl) [some (fm_r ω 0), some (fm_I c), some (fm_I n), some (.long v), none, none, none] rfl (fun Γ => ?_)
  have b0 := hi.fi.1
  refine fm_ald0 dX9_frames_0 ?_
  refine fm_ild1 dX9_frames_1 ?_
  refine fm_cvI dX9_frames_2 cl_X9_81 (k_X9_isCopy ⟨by omega, by omega⟩ b0) mb_0 rfl rfl (by decide) rfl rfl (Nat.le_of_ble_eq_true rfl) (fun z2 s2 q2 => ?_)
  obtain ⟨q2, rfl⟩ := q2
  refine fm_if_eq (⟨by omega, by omega⟩) 17 dX9_frames_5 (by decide) (fun h5 => ?_) (fun h5 => ?_)
  · refine fm_iconst dX9_frames_17 ?_
    refine fm_iretI dX9_frames_18 rfl ?_
    unfold sp_frames
    rw [if_pos (by omega)]
    exact ⟨by omega, sam.rfl⟩
  · refine fm_ild2 dX9_frames_8 ?_
    refine fm_iconst dX9_frames_9 ?_
    refine fm_iconst dX9_frames_10 ?_
    refine fm_csI dX9_frames_11 cl_X9_77 (k_X9_in ⟨by omega, by omega⟩ ⟨by omega, by omega⟩ ⟨by omega, by omega⟩) rfl rfl (by decide) rfl rfl (Nat.le_of_ble_eq_true rfl) (fun z11 s11 q11 => ?_)
    obtain ⟨q11, rfl⟩ := q11
    refine fm_if_ne (⟨by omega, by omega⟩) 19 dX9_frames_14 (by decide) (fun h14 => ?_) (fun h14 => ?_)
    · refine fm_ild2 dX9_frames_19 ?_
      refine fm_iconst dX9_frames_20 ?_
      refine fm_isub dX9_frames_21 ?_
      refine fm_ist5 rfl dX9_frames_22 ?_
      exact l_mf1 hi (by omega) (by omega) n.toNat (n - 1) _ (by omega) (by omega) (fun j h1 h2 => by omega)
    · refine fm_iconst dX9_frames_17 ?_
      refine fm_iretI dX9_frames_18 rfl ?_
      unfold sp_frames
      rw [if_pos (by omega)]
      exact ⟨by omega, sam.rfl⟩
