/-! Sources: choose and what it stands on -/
def sg (μ τ : fm_Mem) : Prop := rel μ τ ∧ ∀ c p : Nat, c < 6 → (p : Int) < μ 1 6 → τ (57 + c) p = std μ c p
/-- cells that price and choice may change -/
def fr7 (σ τ : fm_Mem) : Prop := ∀ k x, k ≠ 9 → k ≠ 12 → k < 104 → τ k x = σ k x
theorem fr7.rfl {a : fm_Mem} : fr7 a a := fun _ _ _ _ _ => Eq.refl _
theorem fr7.trans {a b c : fm_Mem} (h1 : fr7 a b) (h2 : fr7 b c) : fr7 a c := fun k x q1 q2 q3 => (h2 k x q1 q2 q3).trans (h1 k x q1 q2 q3)
theorem fr7.up {a b : fm_Mem} {k j : Nat} {v : Int} (h : fr7 a b) (hk : k = 9 ∨ k = 12 ∨ 104 ≤ k) : fr7 a (fm_up b k j v) := fun k2 j2 h1 h2 h3 => by
  rw [fm_up_ne (by omega)]
  exact h k2 j2 h1 h2 h3
theorem fr7.frm {a b : fm_Mem} (h : fr7 a b) : frm a b := fun k j hk => by
  unfold scr at hk
  exact h k j (by omega) (by omega) (by omega)
theorem sg.fr7 {μ σ τ : fm_Mem} (h : sg μ σ) (hr : fr7 σ τ) : sg μ τ := ⟨h.1.frm hr.frm, fun c p hc hp => by rw [hr _ _ (by omega) (by omega) (by omega)]; exact h.2 c p hc hp⟩
set_option maxRecDepth 20000 in
set_option maxHeartbeats 4000000 in
theorem k_X5_canBe {ω : fm_O} {σ : fm_Mem} {μ : fm_Mem} (hi : fj μ) (g : sg μ σ) {p : Int} (hp : 0 ≤ p ∧ p < μ 1 6) {s : Int} (hs : 0 ≤ s ∧ s ≤ 6) : fm_Met kc ω yX5_canBe cX5_canBe 3 (some .boolean) (fm_rm 0) [fm_r ω 9, fm_I p, fm_I s] σ (fm_pI fun z σ' => ((mayP μ p.toNat s.toNat) ∧ z = 1 ∨ ¬ (mayP μ p.toNat s.toNat) ∧ z = 0) ∧ σ = σ') := by
  refine fm_start (by decide) rfl (Nat.le_of_ble_eq_true rfl) [some (fm_r ω 9), some (fm_I p), some (fm_I s)] rfl (fun Γ => ?_)
  have hf := hi.fi
  have h := g.1
  have hw := rel.cw hf h
  have b6 := hf.2.1 6 (by omega)
  have e6 := h.2.1.1
  have sb := std_b (μ := μ) (c := s.toNat) (p := p.toNat) (by omega)
  have es : s < 6 → σ (57 + s.toNat) p.toNat = std μ s.toNat p.toNat := fun q => g.2 _ _ (by omega) (by omega)
  have cs : s < 6 → 0 ≤ μ 1 s.toNat ∧ μ 1 s.toNat ≤ 40 := fun q => hf.2.1 s.toNat (by omega)
  refine fm_ild2 dX5_canBe_0 ?_
  refine fm_bipush (by decide) dX5_canBe_1 ?_
  refine fm_icmp_eq (⟨by omega, by omega⟩) (⟨by omega, by omega⟩) 19 dX5_canBe_3 (by decide) (fun h3 => ?_) (fun h3 => ?_)
  · refine fm_iconst dX5_canBe_19 ?_
    refine fm_goto 24 dX5_canBe_20 (by decide) ?_
    exact fm_zretI dX5_canBe_24 rfl (by omega) ⟨by omega, rfl⟩
  · refine fm_ald0 dX5_canBe_6 ?_
    refine gr_5_4 dX5_canBe_7 fd_X5_11 ?_
    refine fm_ild2 dX5_canBe_10 ?_
    refine ar_10 (by omega) (by omega) dX5_canBe_11 ?_
    refine fm_ild1 dX5_canBe_12 ?_
    refine fm_iald dX5_canBe_13 (ia_sd (by omega)) (by omega) (by omega) ?_
    rw [es (by omega)]
    refine fm_bipush (by decide) dX5_canBe_14 ?_
    refine fm_icmp_eq (⟨by omega, by omega⟩) (⟨by omega, by omega⟩) 23 dX5_canBe_16 (by decide) (fun h16 => ?_) (fun h16 => ?_)
    · refine fm_iconst dX5_canBe_23 ?_
      exact fm_zretI dX5_canBe_24 rfl (by omega) ⟨by omega, rfl⟩
    · refine fm_iconst dX5_canBe_19 ?_
      refine fm_goto 24 dX5_canBe_20 (by decide) ?_
      exact fm_zretI dX5_canBe_24 rfl (by omega) ⟨by omega, rfl⟩
set_option maxRecDepth 20000 in
set_option maxHeartbeats 4000000 in
theorem k_X5_ownPrice {ω : fm_O} {σ : fm_Mem} {μ : fm_Mem} (hi : fj μ) (g : sg μ σ) {p : Int} (hp : 0 ≤ p ∧ p < μ 1 6) {s : Int} (hs : 0 ≤ s ∧ s ≤ 6) (hm : mayP μ p.toNat s.toNat) : fm_Met kc ω yX5_ownPrice cX5_ownPrice 3 (some .int) (fm_rm 0) [fm_r ω 9, fm_I p, fm_I s] σ (fm_pI fun z σ' => z = own μ p.toNat s.toNat ∧ σ = σ') := by
  refine fm_start (by decide) rfl (Nat.le_of_ble_eq_true rfl) [some (fm_r ω 9), some (fm_I p), some (fm_I s)] rfl (fun Γ => ?_)
  have hf := hi.fi
  have h := g.1
  have hw := rel.cw hf h
  have b6 := hf.2.1 6 (by omega)
  have e6 := h.2.1.1
  have sb := std_b (μ := μ) (c := s.toNat) (p := p.toNat) (by omega)
  have es : s < 6 → σ (57 + s.toNat) p.toNat = std μ s.toNat p.toNat := fun q => g.2 _ _ (by omega) (by omega)
  have cs : s < 6 → 0 ≤ μ 1 s.toNat ∧ μ 1 s.toNat ≤ 40 := fun q => hf.2.1 s.toNat (by omega)
  refine fm_ild2 dX5_ownPrice_0 ?_
  refine fm_bipush (by decide) dX5_ownPrice_1 ?_
  refine fm_icmp_ne (⟨by omega, by omega⟩) (⟨by omega, by omega⟩) 15 dX5_ownPrice_3 (by decide) (fun h3 => ?_) (fun h3 => ?_)
  · refine fm_ald0 dX5_ownPrice_15 ?_
    refine gr_5_1 dX5_ownPrice_16 fd_X5_27 ?_
    refine fm_ild2 dX5_ownPrice_19 ?_
    refine ar_1 (by omega) (by omega) dX5_ownPrice_20 ?_
    refine gr_3_1 (by omega) dX5_ownPrice_21 fd_X5_95 ?_
    refine fm_ald0 dX5_ownPrice_24 ?_
    refine gr_5_4 dX5_ownPrice_25 fd_X5_11 ?_
    refine fm_ild2 dX5_ownPrice_28 ?_
    refine ar_10 (by omega) (by omega) dX5_ownPrice_29 ?_
    refine fm_ild1 dX5_ownPrice_30 ?_
    refine fm_iald dX5_ownPrice_31 (ia_sd (by omega)) (by omega) (by omega) ?_
    rw [es (by omega)]
    refine fm_iald dX5_ownPrice_32 (ia_rw (by omega)) (by omega) (by omega) ?_
    refine fm_iretI dX5_ownPrice_33 rfl ⟨?_, rfl⟩
    unfold own
    first
      | (rw [if_pos (by omega)]; exact h.2.2.1 1 (by omega))
      | (rw [if_neg (by omega)]; exact ((h.1.2 s.toNat (by omega)).2 _ (by omega)).2.1)
  · refine fm_ald0 dX5_ownPrice_6 ?_
    refine gr_5_2 dX5_ownPrice_7 fd_X5_31 ?_
    refine fm_iconst dX5_ownPrice_10 ?_
    refine fm_iald dX5_ownPrice_11 ia_5 (by omega) (by omega) ?_
    refine fm_goto 33 dX5_ownPrice_12 (by decide) ?_
    refine fm_iretI dX5_ownPrice_33 rfl ⟨?_, rfl⟩
    unfold own
    first
      | (rw [if_pos (by omega)]; exact h.2.2.1 1 (by omega))
      | (rw [if_neg (by omega)]; exact ((h.1.2 s.toNat (by omega)).2 _ (by omega)).2.1)
set_option maxRecDepth 20000 in
set_option maxHeartbeats 4000000 in
theorem k_X5_isJoined {ω : fm_O} {σ : fm_Mem} {μ : fm_Mem} (hi : fj μ) (g : sg μ σ) {p : Int} (hp : 0 ≤ p ∧ p < μ 1 6) {a s : Int} (ha : 0 ≤ a ∧ a ≤ 6) (hs : 0 ≤ s ∧ s ≤ 6) : fm_Met kc ω yX5_isJoined cX5_isJoined 4 (some .boolean) (fm_rm 0) [fm_r ω 9, fm_I p, fm_I a, fm_I s] σ (fm_pI fun z σ' => ((0 < p ∧ a ≠ 6 ∧ s ≠ 6 ∧ μ 5 (p - 1).toNat = μ 5 p.toNat) ∧ z = 1 ∨ ¬ (0 < p ∧ a ≠ 6 ∧ s ≠ 6 ∧ μ 5 (p - 1).toNat = μ 5 p.toNat) ∧ z = 0) ∧ σ = σ') := by
  refine fm_start (by decide) rfl (Nat.le_of_ble_eq_true rfl) [some (fm_r ω 9), some (fm_I p), some (fm_I a), some (fm_I s)] rfl (fun Γ => ?_)
  have hf := hi.fi
  have h := g.1
  have hw := rel.cw hf h
  have b6 := hf.2.1 6 (by omega)
  have e6 := h.2.1.1
  have y1 := hf.2.2.2.2.2.2.1 (p - 1).toNat
  have y2 := hf.2.2.2.2.2.2.1 p.toNat
  have x1 : 0 < p → σ 4 (p - 1).toNat = μ 5 (p - 1).toNat := fun q => (h.2.1.2 _ (by omega)).2
  have x2 : σ 4 p.toNat = μ 5 p.toNat := (h.2.1.2 _ (by omega)).2
  refine fm_ild1 dX5_isJoined_0 ?_
  refine fm_if_le (⟨by omega, by omega⟩) 43 dX5_isJoined_1 (by decide) (fun h1 => ?_) (fun h1 => ?_)
  · refine fm_iconst dX5_isJoined_43 ?_
    exact fm_zretI dX5_isJoined_44 rfl (by omega) ⟨by omega, rfl⟩
  · refine fm_ild2 dX5_isJoined_4 ?_
    refine fm_bipush (by decide) dX5_isJoined_5 ?_
    refine fm_icmp_eq (⟨by omega, by omega⟩) (⟨by omega, by omega⟩) 43 dX5_isJoined_7 (by decide) (fun h7 => ?_) (fun h7 => ?_)
    · refine fm_iconst dX5_isJoined_43 ?_
      exact fm_zretI dX5_isJoined_44 rfl (by omega) ⟨by omega, rfl⟩
    · refine fm_ild3 dX5_isJoined_10 ?_
      refine fm_bipush (by decide) dX5_isJoined_11 ?_
      refine fm_icmp_eq (⟨by omega, by omega⟩) (⟨by omega, by omega⟩) 43 dX5_isJoined_13 (by decide) (fun h13 => ?_) (fun h13 => ?_)
      · refine fm_iconst dX5_isJoined_43 ?_
        exact fm_zretI dX5_isJoined_44 rfl (by omega) ⟨by omega, rfl⟩
      · refine fm_ald0 dX5_isJoined_16 ?_
        refine gr_5_0 dX5_isJoined_17 fd_X5_23 ?_
        refine gr_4_1 dX5_isJoined_20 fd_X5_105 ?_
        refine fm_ild1 dX5_isJoined_23 ?_
        refine fm_iconst dX5_isJoined_24 ?_
        refine fm_isub dX5_isJoined_25 ?_
        refine fm_iald dX5_isJoined_26 ia_4 (by omega) (by omega) ?_
        rw [x1 (by omega)]
        refine fm_ald0 dX5_isJoined_27 ?_
        refine gr_5_0 dX5_isJoined_28 fd_X5_23 ?_
        refine gr_4_1 dX5_isJoined_31 fd_X5_105 ?_
        refine fm_ild1 dX5_isJoined_34 ?_
        refine fm_iald dX5_isJoined_35 ia_4 (by omega) (by omega) ?_
        rw [x2]
        refine fm_icmp_ne (⟨by omega, by omega⟩) (⟨by omega, by omega⟩) 43 dX5_isJoined_36 (by decide) (fun h36 => ?_) (fun h36 => ?_)
        · refine fm_iconst dX5_isJoined_43 ?_
          exact fm_zretI dX5_isJoined_44 rfl (by omega) ⟨by omega, rfl⟩
        · refine fm_iconst dX5_isJoined_39 ?_
          refine fm_goto 44 dX5_isJoined_40 (by decide) ?_
          exact fm_zretI dX5_isJoined_44 rfl (by omega) ⟨by omega, rfl⟩
set_option maxRecDepth 20000 in
set_option maxHeartbeats 4000000 in
theorem k_X5_cameraOf {ω : fm_O} {σ : fm_Mem} {μ : fm_Mem} (hi : fj μ) (g : sg μ σ) {p : Int} (hp : 0 ≤ p ∧ p < μ 1 6) {s : Int} (hs : 0 ≤ s ∧ s < 6) (hm : 0 ≤ std μ s.toNat p.toNat) : fm_Met kc ω yX5_cameraOf cX5_cameraOf 3 (some .int) (fm_rm 0) [fm_r ω 9, fm_I p, fm_I s] σ (fm_pI fun z σ' => z = cmr μ p.toNat s.toNat ∧ σ = σ') := by
  refine fm_start (by decide) rfl (Nat.le_of_ble_eq_true rfl) [some (fm_r ω 9), some (fm_I p), some (fm_I s)] rfl (fun Γ => ?_)
  have hf := hi.fi
  have h := g.1
  have hw := rel.cw hf h
  have b6 := hf.2.1 6 (by omega)
  have e6 := h.2.1.1
  have sb := std_b (μ := μ) (c := s.toNat) (p := p.toNat) (by omega)
  have es : s < 6 → σ (57 + s.toNat) p.toNat = std μ s.toNat p.toNat := fun q => g.2 _ _ (by omega) (by omega)
  have cs : s < 6 → 0 ≤ μ 1 s.toNat ∧ μ 1 s.toNat ≤ 40 := fun q => hf.2.1 s.toNat (by omega)
  refine fm_ald0 dX5_cameraOf_0 ?_
  refine gr_5_1 dX5_cameraOf_1 fd_X5_27 ?_
  refine fm_ild2 dX5_cameraOf_4 ?_
  refine ar_1 (by omega) (by omega) dX5_cameraOf_5 ?_
  refine gr_3_2 (by omega) dX5_cameraOf_6 fd_X5_108 ?_
  refine fm_ald0 dX5_cameraOf_9 ?_
  refine gr_5_4 dX5_cameraOf_10 fd_X5_11 ?_
  refine fm_ild2 dX5_cameraOf_13 ?_
  refine ar_10 (by omega) (by omega) dX5_cameraOf_14 ?_
  refine fm_ild1 dX5_cameraOf_15 ?_
  refine fm_iald dX5_cameraOf_16 (ia_sd (by omega)) (by omega) (by omega) ?_
  rw [es (by omega)]
  refine fm_iald dX5_cameraOf_17 (ia_rc (by omega)) (by omega) (by omega) ?_
  exact fm_iretI dX5_cameraOf_18 rfl ⟨((h.1.2 s.toNat (by omega)).2 _ (by omega)).2.2, rfl⟩
set_option maxRecDepth 20000 in
set_option maxHeartbeats 4000000 in
theorem k_X5_joinPrice {ω : fm_O} {σ : fm_Mem} {μ : fm_Mem} (hi : fj μ) (g : sg μ σ) {p : Int} (hp : 0 ≤ p ∧ p < μ 1 6) {a s : Int} (ha : 0 ≤ a ∧ a ≤ 6) (hs : 0 ≤ s ∧ s ≤ 6) (ma : a = 6 ∨ p = 0 ∨ mayP μ (p - 1).toNat a.toNat) (ms : mayP μ p.toNat s.toNat) : fm_Met kc ω yX5_joinPrice cX5_joinPrice 6 (some .int) (fm_rm 1) [fm_r ω 9, fm_I p, fm_I a, fm_I s] σ (fm_pI fun z σ' => z = jn μ p.toNat a.toNat s.toNat ∧ σ = σ') := by
  refine fm_start (by decide) rfl (Nat.le_of_ble_eq_true rfl) [some (fm_r ω 9), some (fm_I p), some (fm_I a), some (fm_I s), none, none] rfl (fun Γ => ?_)
  have hf := hi.fi
  have h := g.1
  have hw := rel.cw hf h
  have b6 := hf.2.1 6 (by omega)
  have e6 := h.2.1.1
  refine fm_ald0 dX5_joinPrice_0 ?_
  refine fm_ild1 dX5_joinPrice_1 ?_
  refine fm_ild2 dX5_joinPrice_2 ?_
  refine fm_ild3 dX5_joinPrice_3 ?_
  refine fm_cvI dX5_joinPrice_4 cl_X5_98 (k_X5_isJoined hi g hp ha hs) ob_9 rfl rfl (by decide) rfl rfl (Nat.le_of_ble_eq_true rfl) (fun z4 s4 q4 => ?_)
  obtain ⟨q4, rfl⟩ := q4
  refine fm_if_ne (⟨by omega, by omega⟩) 12 dX5_joinPrice_7 (by decide) (fun h7 => ?_) (fun h7 => ?_)
  · refine fm_ild2 dX5_joinPrice_12 ?_
    refine fm_ild3 dX5_joinPrice_13 ?_
    refine fm_icmp_eq (⟨by omega, by omega⟩) (⟨by omega, by omega⟩) 26 dX5_joinPrice_14 (by decide) (fun h14 => ?_) (fun h14 => ?_)
    · refine fm_iconst dX5_joinPrice_26 ?_
      refine fm_ist4 rfl dX5_joinPrice_27 ?_
      refine fm_ald0 dX5_joinPrice_29 ?_
      refine fm_ild1 dX5_joinPrice_30 ?_
      refine fm_iconst dX5_joinPrice_31 ?_
      refine fm_isub dX5_joinPrice_32 ?_
      refine fm_ild2 dX5_joinPrice_33 ?_
      refine fm_cvI dX5_joinPrice_34 cl_X5_102 (k_X5_cameraOf hi g (by omega) (by omega) (by omega)) ob_9 rfl rfl (by decide) rfl rfl (Nat.le_of_ble_eq_true rfl) (fun z34 s34 q34 => ?_)
      obtain ⟨rfl, rfl⟩ := q34
      have c1 := hf.2.2.2.2.2.1 (40 * a.toNat + (std μ a.toNat (p - 1).toNat).toNat)
      change 0 ≤ cmr μ (p - 1).toNat a.toNat ∧ cmr μ (p - 1).toNat a.toNat ≤ 1 at c1
      refine fm_ald0 dX5_joinPrice_37 ?_
      refine fm_ild1 dX5_joinPrice_38 ?_
      refine fm_ild3 dX5_joinPrice_39 ?_
      refine fm_cvI dX5_joinPrice_40 cl_X5_102 (k_X5_cameraOf hi g (by omega) (by omega) (by omega)) ob_9 rfl rfl (by decide) rfl rfl (Nat.le_of_ble_eq_true rfl) (fun z40 s40 q40 => ?_)
      obtain ⟨rfl, rfl⟩ := q40
      have c2 := hf.2.2.2.2.2.1 (40 * s.toNat + (std μ s.toNat p.toNat).toNat)
      change 0 ≤ cmr μ p.toNat s.toNat ∧ cmr μ p.toNat s.toNat ≤ 1 at c2
      refine fm_icmp_eq (⟨by omega, by omega⟩) (⟨by omega, by omega⟩) 55 dX5_joinPrice_43 (by decide) (fun h43 => ?_) (fun h43 => ?_)
      · refine fm_iconst dX5_joinPrice_55 ?_
        refine fm_ist5 rfl dX5_joinPrice_56 ?_
        refine fm_ild4 dX5_joinPrice_58 ?_
        refine fm_ild5 dX5_joinPrice_60 ?_
        refine fm_iadd dX5_joinPrice_62 ?_
        refine fm_iretI dX5_joinPrice_63 rfl ⟨?_, rfl⟩
        unfold jn
        rw [show p.toNat - 1 = (p - 1).toNat by omega]
        first
          | (rw [if_pos (by omega)]; done)
          | (rw [if_neg (by omega), if_pos (by omega), if_pos (by omega)]; done)
          | (rw [if_neg (by omega), if_neg (by omega), if_pos (by omega)]; rw [h.2.2.1 2 (by omega)]; done)
          | (rw [if_neg (by omega), if_pos (by omega), if_neg (by omega)]; rw [h.2.2.1 3 (by omega)]; done)
          | (rw [if_neg (by omega), if_neg (by omega), if_neg (by omega)]; rw [h.2.2.1 2 (by omega), h.2.2.1 3 (by omega)]; done)
      · refine fm_ald0 dX5_joinPrice_46 ?_
        refine gr_5_2 dX5_joinPrice_47 fd_X5_31 ?_
        refine fm_iconst dX5_joinPrice_50 ?_
        refine fm_iald dX5_joinPrice_51 ia_5 (by omega) (by omega) ?_
        rw [show (3 : Int).toNat = 3 from rfl]
        refine fm_goto 56 dX5_joinPrice_52 (by decide) ?_
        refine fm_ist5 rfl dX5_joinPrice_56 ?_
        refine fm_ild4 dX5_joinPrice_58 ?_
        refine fm_ild5 dX5_joinPrice_60 ?_
        refine fm_iadd dX5_joinPrice_62 ?_
        refine fm_iretI dX5_joinPrice_63 rfl ⟨?_, rfl⟩
        unfold jn
        rw [show p.toNat - 1 = (p - 1).toNat by omega]
        first
          | (rw [if_pos (by omega)]; done)
          | (rw [if_neg (by omega), if_pos (by omega), if_pos (by omega)]; done)
          | (rw [if_neg (by omega), if_neg (by omega), if_pos (by omega)]; rw [h.2.2.1 2 (by omega)]; done)
          | (rw [if_neg (by omega), if_pos (by omega), if_neg (by omega)]; rw [h.2.2.1 3 (by omega)]; done)
          | (rw [if_neg (by omega), if_neg (by omega), if_neg (by omega)]; rw [h.2.2.1 2 (by omega), h.2.2.1 3 (by omega)]; done)
    · refine fm_ald0 dX5_joinPrice_17 ?_
      refine gr_5_2 dX5_joinPrice_18 fd_X5_31 ?_
      refine fm_iconst dX5_joinPrice_21 ?_
      refine fm_iald dX5_joinPrice_22 ia_5 (by omega) (by omega) ?_
      rw [show (2 : Int).toNat = 2 from rfl]
      refine fm_goto 27 dX5_joinPrice_23 (by decide) ?_
      refine fm_ist4 rfl dX5_joinPrice_27 ?_
      refine fm_ald0 dX5_joinPrice_29 ?_
      refine fm_ild1 dX5_joinPrice_30 ?_
      refine fm_iconst dX5_joinPrice_31 ?_
      refine fm_isub dX5_joinPrice_32 ?_
      refine fm_ild2 dX5_joinPrice_33 ?_
      refine fm_cvI dX5_joinPrice_34 cl_X5_102 (k_X5_cameraOf hi g (by omega) (by omega) (by omega)) ob_9 rfl rfl (by decide) rfl rfl (Nat.le_of_ble_eq_true rfl) (fun z34 s34 q34 => ?_)
      obtain ⟨rfl, rfl⟩ := q34
      have c1 := hf.2.2.2.2.2.1 (40 * a.toNat + (std μ a.toNat (p - 1).toNat).toNat)
      change 0 ≤ cmr μ (p - 1).toNat a.toNat ∧ cmr μ (p - 1).toNat a.toNat ≤ 1 at c1
      refine fm_ald0 dX5_joinPrice_37 ?_
      refine fm_ild1 dX5_joinPrice_38 ?_
      refine fm_ild3 dX5_joinPrice_39 ?_
      refine fm_cvI dX5_joinPrice_40 cl_X5_102 (k_X5_cameraOf hi g (by omega) (by omega) (by omega)) ob_9 rfl rfl (by decide) rfl rfl (Nat.le_of_ble_eq_true rfl) (fun z40 s40 q40 => ?_)
      obtain ⟨rfl, rfl⟩ := q40
      have c2 := hf.2.2.2.2.2.1 (40 * s.toNat + (std μ s.toNat p.toNat).toNat)
      change 0 ≤ cmr μ p.toNat s.toNat ∧ cmr μ p.toNat s.toNat ≤ 1 at c2
      refine fm_icmp_eq (⟨by omega, by omega⟩) (⟨by omega, by omega⟩) 55 dX5_joinPrice_43 (by decide) (fun h43 => ?_) (fun h43 => ?_)
      · refine fm_iconst dX5_joinPrice_55 ?_
        refine fm_ist5 rfl dX5_joinPrice_56 ?_
        refine fm_ild4 dX5_joinPrice_58 ?_
        refine fm_ild5 dX5_joinPrice_60 ?_
        refine fm_iadd dX5_joinPrice_62 ?_
        refine fm_iretI dX5_joinPrice_63 rfl ⟨?_, rfl⟩
        unfold jn
        rw [show p.toNat - 1 = (p - 1).toNat by omega]
        first
          | (rw [if_pos (by omega)]; done)
          | (rw [if_neg (by omega), if_pos (by omega), if_pos (by omega)]; done)
          | (rw [if_neg (by omega), if_neg (by omega), if_pos (by omega)]; rw [h.2.2.1 2 (by omega)]; done)
          | (rw [if_neg (by omega), if_pos (by omega), if_neg (by omega)]; rw [h.2.2.1 3 (by omega)]; done)
          | (rw [if_neg (by omega), if_neg (by omega), if_neg (by omega)]; rw [h.2.2.1 2 (by omega), h.2.2.1 3 (by omega)]; done)
      · refine fm_ald0 dX5_joinPrice_46 ?_
        refine gr_5_2 dX5_joinPrice_47 fd_X5_31 ?_
        refine fm_iconst dX5_joinPrice_50 ?_
        refine fm_iald dX5_joinPrice_51 ia_5 (by omega) (by omega) ?_
        rw [show (3 : Int).toNat = 3 from rfl]
        refine fm_goto 56 dX5_joinPrice_52 (by decide) ?_
        refine fm_ist5 rfl dX5_joinPrice_56 ?_
        refine fm_ild4 dX5_joinPrice_58 ?_
        refine fm_ild5 dX5_joinPrice_60 ?_
        refine fm_iadd dX5_joinPrice_62 ?_
        refine fm_iretI dX5_joinPrice_63 rfl ⟨?_, rfl⟩
        unfold jn
        rw [show p.toNat - 1 = (p - 1).toNat by omega]
        first
          | (rw [if_pos (by omega)]; done)
          | (rw [if_neg (by omega), if_pos (by omega), if_pos (by omega)]; done)
          | (rw [if_neg (by omega), if_neg (by omega), if_pos (by omega)]; rw [h.2.2.1 2 (by omega)]; done)
          | (rw [if_neg (by omega), if_pos (by omega), if_neg (by omega)]; rw [h.2.2.1 3 (by omega)]; done)
          | (rw [if_neg (by omega), if_neg (by omega), if_neg (by omega)]; rw [h.2.2.1 2 (by omega), h.2.2.1 3 (by omega)]; done)
  · refine fm_iconst dX5_joinPrice_10 ?_
    refine fm_iretI dX5_joinPrice_11 rfl ⟨?_, rfl⟩
    unfold jn
    rw [show p.toNat - 1 = (p - 1).toNat by omega]
    first
      | (rw [if_pos (by omega)]; done)
      | (rw [if_neg (by omega), if_pos (by omega), if_pos (by omega)]; done)
      | (rw [if_neg (by omega), if_neg (by omega), if_pos (by omega)]; rw [h.2.2.1 2 (by omega)]; done)
      | (rw [if_neg (by omega), if_pos (by omega), if_neg (by omega)]; rw [h.2.2.1 3 (by omega)]; done)
      | (rw [if_neg (by omega), if_neg (by omega), if_neg (by omega)]; rw [h.2.2.1 2 (by omega), h.2.2.1 3 (by omega)]; done)
set_option maxRecDepth 20000 in
set_option maxHeartbeats 4000000 in
theorem l_bs {ω : fm_O} {σ : fm_Mem} {Γ : fm_G} {μ : fm_Mem} (hi : fj μ) (g : sg μ σ) {p : Int} (hp : 0 ≤ p ∧ p < μ 1 6) {a : Int} (ha : 0 ≤ a ∧ a ≤ 6) (ma : a = 6 ∨ p = 0 ∨ mayP μ (p - 1).toNat a.toNat) (hr : ∀ d : Nat, d < 7 → mayP μ p.toNat d → σ (104 + p.toNat) d = prc μ p.toNat d) : ∀ (d : Nat) (z b3 b4 : Int) (o6 : Option Value), 0 ≤ z → z + d = 7 → b3 = ((bf (hB μ p.toNat) (fv μ p.toNat a.toNat) 1000000 6 z.toNat).2 : Int) → b4 = (bf (hB μ p.toNat) (fv μ p.toNat a.toNat) 1000000 6 z.toNat).1 → fm_W kc ω Γ (cX5_bestSource, RX5, fm_rm 2, 7, (some .int)) (fm_pI fun z σ' => z = (am μ p.toNat a.toNat : Int) ∧ σ = σ') σ 10 [some (fm_r ω 9), some (fm_I p), some (fm_I a), some (fm_I b3), some (fm_I b4), some (fm_I z), o6] [] := by
  have hf := hi.fi
  have b6 := hf.2.1 6 (by omega)
  intro d
  induction d with
  | zero =>
    intro z b3 b4 o6 h0 hz h3 h4
    refine fm_ild5 dX5_bestSource_10 ?_
    refine fm_bipush (by decide) dX5_bestSource_12 ?_
    refine fm_icmp_gt (⟨by omega, by omega⟩) (⟨by omega, by omega⟩) 67 dX5_bestSource_14 (by decide) (fun h14 => ?_) (fun h14 => ?_)
    · refine fm_ild3 dX5_bestSource_67 ?_
      exact fm_iretI dX5_bestSource_68 rfl ⟨by rw [h3, show z.toNat = 7 by omega]; rfl, rfl⟩
    · exfalso; omega
  | succ d ih =>
    intro z b3 b4 o6 h0 hz h3 h4
    have e1 : (z + 1).toNat = z.toNat + 1 := by omega
    have y1 := fv_b hf p.toNat a.toNat z.toNat
    have y2 := jn_b hf p.toNat a.toNat z.toNat
    have y3 := prc_b hf p.toNat z.toNat
    have y4 : fv μ p.toNat a.toNat z.toNat = jn μ p.toNat a.toNat z.toNat + prc μ p.toNat z.toNat := rfl
    have y5 := (bf_le (h := hB μ p.toNat) (f := fv μ p.toNat a.toNat) (b0 := 1000000) (s0 := 6) z.toNat).1
    have y6 := bf_pos (h := hB μ p.toNat) (f := fv μ p.toNat a.toNat) (b0 := 1000000) (s0 := 6) (fun s => (fv_b hf p.toNat a.toNat s).1) (by omega) z.toNat
    refine fm_ild5 dX5_bestSource_10 ?_
    refine fm_bipush (by decide) dX5_bestSource_12 ?_
    refine fm_icmp_gt (⟨by omega, by omega⟩) (⟨by omega, by omega⟩) 67 dX5_bestSource_14 (by decide) (fun h14 => ?_) (fun h14 => ?_)
    · exfalso; omega
    · refine fm_ald0 dX5_bestSource_17 ?_
      refine fm_ild1 dX5_bestSource_18 ?_
      refine fm_ild5 dX5_bestSource_19 ?_
      refine fm_cvI dX5_bestSource_21 cl_X5_87 (k_X5_canBe hi g hp (by omega)) ob_9 rfl rfl (by decide) rfl rfl (Nat.le_of_ble_eq_true rfl) (fun z21 s21 q21 => ?_)
      obtain ⟨q21, rfl⟩ := q21
      refine fm_if_eq (⟨by omega, by omega⟩) 61 dX5_bestSource_24 (by decide) (fun h24 => ?_) (fun h24 => ?_)
      · refine fm_inc5 rfl dX5_bestSource_61 ?_
        refine fm_goto 10 dX5_bestSource_64 (by decide) ?_
        refine ih (z + 1) _ _ _ (by omega) (by omega) ?_ ?_
        · rw [e1, bf]
          first
            | (rw [if_pos ⟨hB_t.mpr (by omega), by omega⟩]; simp only; omega)
            | (rw [if_neg (fun q => by have := hB_t.mp q.1; omega)]; exact h3)
        · rw [e1, bf]
          first
            | (rw [if_pos ⟨hB_t.mpr (by omega), by omega⟩]; simp only; omega)
            | (rw [if_neg (fun q => by have := hB_t.mp q.1; omega)]; exact h4)
      · refine fm_ald0 dX5_bestSource_27 ?_
        refine fm_ild1 dX5_bestSource_28 ?_
        refine fm_ild2 dX5_bestSource_29 ?_
        refine fm_ild5 dX5_bestSource_30 ?_
        refine fm_cvI dX5_bestSource_32 cl_X5_80 (k_X5_joinPrice hi g hp ha (by omega) ma (by omega)) ob_9 rfl rfl (by decide) rfl rfl (Nat.le_of_ble_eq_true rfl) (fun z32 s32 q32 => ?_)
        obtain ⟨rfl, rfl⟩ := q32
        refine fm_ald0 dX5_bestSource_35 ?_
        refine gr_5_5 dX5_bestSource_36 fd_X5_16 ?_
        refine fm_ild1 dX5_bestSource_39 ?_
        refine ar_11 (by omega) (by omega) dX5_bestSource_40 ?_
        refine fm_ild5 dX5_bestSource_41 ?_
        refine fm_iald dX5_bestSource_43 (ia_sl (by omega)) (by omega) (by omega) ?_
        rw [hr z.toNat (by omega) (by omega)]
        refine fm_iadd dX5_bestSource_44 ?_
        refine fm_ist6 rfl dX5_bestSource_45 ?_
        refine fm_ild6 dX5_bestSource_47 ?_
        refine fm_ild4 dX5_bestSource_49 ?_
        refine fm_icmp_ge (⟨by omega, by omega⟩) (⟨by omega, by omega⟩) 61 dX5_bestSource_51 (by decide) (fun h51 => ?_) (fun h51 => ?_)
        · refine fm_inc5 rfl dX5_bestSource_61 ?_
          refine fm_goto 10 dX5_bestSource_64 (by decide) ?_
          refine ih (z + 1) _ _ _ (by omega) (by omega) ?_ ?_
          · rw [e1, bf]
            first
              | (rw [if_pos ⟨hB_t.mpr (by omega), by omega⟩]; simp only; omega)
              | (rw [if_neg (fun q => by have := hB_t.mp q.1; omega)]; exact h3)
          · rw [e1, bf]
            first
              | (rw [if_pos ⟨hB_t.mpr (by omega), by omega⟩]; simp only; omega)
              | (rw [if_neg (fun q => by have := hB_t.mp q.1; omega)]; exact h4)
        · refine fm_ild6 dX5_bestSource_54 ?_
          refine fm_ist4 rfl dX5_bestSource_56 ?_
          refine fm_ild5 dX5_bestSource_58 ?_
          refine fm_ist3 rfl dX5_bestSource_60 ?_
          refine fm_inc5 rfl dX5_bestSource_61 ?_
          refine fm_goto 10 dX5_bestSource_64 (by decide) ?_
          refine ih (z + 1) _ _ _ (by omega) (by omega) ?_ ?_
          · rw [e1, bf]
            first
              | (rw [if_pos ⟨hB_t.mpr (by omega), by omega⟩]; simp only; omega)
              | (rw [if_neg (fun q => by have := hB_t.mp q.1; omega)]; exact h3)
          · rw [e1, bf]
            first
              | (rw [if_pos ⟨hB_t.mpr (by omega), by omega⟩]; simp only; omega)
              | (rw [if_neg (fun q => by have := hB_t.mp q.1; omega)]; exact h4)
set_option maxRecDepth 20000 in
set_option maxHeartbeats 4000000 in
theorem k_X5_bestSource {ω : fm_O} {σ : fm_Mem} {μ : fm_Mem} (hi : fj μ) (g : sg μ σ) {p : Int} (hp : 0 ≤ p ∧ p < μ 1 6) {a : Int} (ha : 0 ≤ a ∧ a ≤ 6) (ma : a = 6 ∨ p = 0 ∨ mayP μ (p - 1).toNat a.toNat) (hr : ∀ d : Nat, d < 7 → mayP μ p.toNat d → σ (104 + p.toNat) d = prc μ p.toNat d) : fm_Met kc ω yX5_bestSource cX5_bestSource 7 (some .int) (fm_rm 2) [fm_r ω 9, fm_I p, fm_I a] σ (fm_pI fun z σ' => z = (am μ p.toNat a.toNat : Int) ∧ σ = σ') := by
  refine fm_start (by decide) rfl (Nat.le_of_ble_eq_true rfl) [some (fm_r ω 9), some (fm_I p), some (fm_I a), none, none, none, none] rfl (fun Γ => ?_)
  refine fm_bipush (by decide) dX5_bestSource_0 ?_
  refine fm_ist3 rfl dX5_bestSource_2 ?_
  refine fm_ldc (n := 1000000) ck_X5_94 (by decide) dX5_bestSource_3 ?_
  refine fm_ist4 rfl dX5_bestSource_5 ?_
  refine fm_iconst dX5_bestSource_7 ?_
  refine fm_ist5 rfl dX5_bestSource_8 ?_
  exact l_bs hi g hp ha ma hr 7 0 6 1000000 _ (by omega) (by omega) rfl rfl
set_option maxRecDepth 20000 in
set_option maxHeartbeats 4000000 in
theorem k_X5_leastBehind {ω : fm_O} {σ : fm_Mem} {μ : fm_Mem} (hi : fj μ) (g : sg μ σ) {p : Int} (hp : 0 ≤ p ∧ p < μ 1 6) {s : Int} (hs : 0 ≤ s ∧ s ≤ 6) (ms : mayP μ p.toNat s.toNat) (hr : p + 1 < μ 1 6 → ∀ d : Nat, d < 7 → mayP μ (p + 1).toNat d → σ (104 + (p + 1).toNat) d = prc μ (p + 1).toNat d) : fm_Met kc ω yX5_leastBehind cX5_leastBehind 5 (some .int) (fm_rm 3) [fm_r ω 9, fm_I p, fm_I s] σ (fm_pI fun z σ' => z = (if p + 1 < μ 1 6 then mv μ (p + 1).toNat s.toNat else 0) ∧ σ = σ') := by
  refine fm_start (by decide) rfl (Nat.le_of_ble_eq_true rfl) [some (fm_r ω 9), some (fm_I p), some (fm_I s), none, none] rfl (fun Γ => ?_)
  have hf := hi.fi
  have h := g.1
  have hw := rel.cw hf h
  have b6 := hf.2.1 6 (by omega)
  have e6 := h.2.1.1
  have em : (p + 1 - 1).toNat = p.toNat := by omega
  refine fm_ild1 dX5_leastBehind_0 ?_
  refine fm_iconst dX5_leastBehind_1 ?_
  refine fm_iadd dX5_leastBehind_2 ?_
  refine fm_ist3 rfl dX5_leastBehind_3 ?_
  refine fm_ild3 dX5_leastBehind_4 ?_
  refine fm_ald0 dX5_leastBehind_5 ?_
  refine gr_5_0 dX5_leastBehind_6 fd_X5_23 ?_
  refine gi_4_2 dX5_leastBehind_9 fd_X5_43 ?_
  refine fm_icmp_lt (⟨by omega, by omega⟩) (⟨by omega, by omega⟩) 17 dX5_leastBehind_12 (by decide) (fun h12 => ?_) (fun h12 => ?_)
  · refine fm_ald0 dX5_leastBehind_17 ?_
    refine fm_ild3 dX5_leastBehind_18 ?_
    refine fm_ild2 dX5_leastBehind_19 ?_
    refine fm_cvI dX5_leastBehind_20 cl_X5_76 (k_X5_bestSource hi g (p := p + 1) (by omega) (by omega) (by rw [em]; omega) (hr (by omega))) ob_9 rfl rfl (by decide) rfl rfl (Nat.le_of_ble_eq_true rfl) (fun z20 s20 q20 => ?_)
    obtain ⟨rfl, rfl⟩ := q20
    obtain ⟨a1, a2, a3⟩ := am_ok hf (p + 1).toNat s.toNat
    refine fm_ist4 rfl dX5_leastBehind_23 ?_
    refine fm_ald0 dX5_leastBehind_25 ?_
    refine fm_ild3 dX5_leastBehind_26 ?_
    refine fm_ild2 dX5_leastBehind_27 ?_
    refine fm_ild4 dX5_leastBehind_28 ?_
    refine fm_cvI dX5_leastBehind_30 cl_X5_80 (k_X5_joinPrice hi g (p := p + 1) (by omega) (by omega) (by omega) (by rw [em]; omega) (by rw [Int.toNat_natCast]; exact a2)) ob_9 rfl rfl (by decide) rfl rfl (Nat.le_of_ble_eq_true rfl) (fun z30 s30 q30 => ?_)
    obtain ⟨rfl, rfl⟩ := q30
    refine fm_ald0 dX5_leastBehind_33 ?_
    refine gr_5_5 dX5_leastBehind_34 fd_X5_16 ?_
    refine fm_ild3 dX5_leastBehind_37 ?_
    refine ar_11 (by omega) (by omega) dX5_leastBehind_38 ?_
    refine fm_ild4 dX5_leastBehind_39 ?_
    refine fm_iald dX5_leastBehind_41 (ia_sl (by omega)) (by omega) (by omega) ?_
    rw [Int.toNat_natCast, hr (by omega) _ a1 a2]
    refine fm_iadd dX5_leastBehind_42 ?_
    refine fm_iretI dX5_leastBehind_43 rfl ⟨?_, rfl⟩
    first
      | (rw [if_neg (by omega)]; done)
      | (rw [if_pos (by omega), a3]; rfl)
  · refine fm_iconst dX5_leastBehind_15 ?_
    refine fm_iretI dX5_leastBehind_16 rfl ⟨?_, rfl⟩
    first
      | (rw [if_neg (by omega)]; done)
      | (rw [if_pos (by omega), a3]; rfl)
set_option maxRecDepth 20000 in
set_option maxHeartbeats 4000000 in
theorem l_pf_in {ω : fm_O} {σ : fm_Mem} {Γ : fm_G} {P : Option Value → fm_Mem → Prop} {μ : fm_Mem} (hi : fj μ) (g : sg μ σ) {p : Int} (hp : 0 ≤ p ∧ p < μ 1 6) (hK : ∀ (τ : fm_Mem) (o2 : Option Value), fr7 σ τ → (∀ q d : Nat, (q : Int) < μ 1 6 → d < 7 → p ≤ (q : Int) → mayP μ q d → τ (104 + q) d = prc μ q d) → fm_W kc ω Γ (cX5_fillPrices, RX5, fm_rm 4, 3, none) P τ 63 [some (fm_r ω 9), some (fm_I p), o2] []) : ∀ (d : Nat) (s : Int) (τ : fm_Mem), 0 ≤ s → s + d = 7 → fr7 σ τ → (∀ q d : Nat, (q : Int) < μ 1 6 → d < 7 → (p < (q : Int) ∨ (p = (q : Int) ∧ (d : Int) < s)) → mayP μ q d → τ (104 + q) d = prc μ q d) → fm_W kc ω Γ (cX5_fillPrices, RX5, fm_rm 4, 3, none) P τ 16 [some (fm_r ω 9), some (fm_I p), some (fm_I s)] [] := by
  have hf := hi.fi
  have b6 := hf.2.1 6 (by omega)
  intro d
  induction d with
  | zero =>
    intro s τ h0 hz hr ht
    refine fm_ild2 dX5_fillPrices_16 ?_
    refine fm_bipush (by decide) dX5_fillPrices_17 ?_
    refine fm_icmp_gt (⟨by omega, by omega⟩) (⟨by omega, by omega⟩) 63 dX5_fillPrices_19 (by decide) (fun h19 => ?_) (fun h19 => ?_)
    · exact hK τ _ hr (fun q d h1 h2 h3 h4 => ht q d h1 h2 (by omega) h4)
    · exfalso; omega
  | succ d ih =>
    intro s τ h0 hz hr ht
    have gt := g.fr7 hr
    have J : ∀ v : Int, (mayP μ p.toNat s.toNat → v = prc μ p.toNat s.toNat) → fm_W kc ω Γ (cX5_fillPrices, RX5, fm_rm 4, 3, none) P τ 56 [some (fm_r ω 9), some (fm_I p), some (fm_I s)] [fm_I v, fm_I s, fm_r ω (104 + p.toNat)] := by
      intro v hv
      refine fm_iast dX5_fillPrices_56 (ia_sl (by omega)) (by omega) (by omega) ?_
      refine fm_inc2 rfl dX5_fillPrices_57 ?_
      refine fm_goto 16 dX5_fillPrices_60 (by decide) ?_
      refine ih (s + 1) _ (by omega) (by omega) (hr.up (by omega)) (fun q d h1 h2 h3 h4 => ?_)
      by_cases e : 104 + q = 104 + p.toNat
      · by_cases e2 : d = s.toNat
        · have e3 : q = p.toNat := by omega
          subst e3 e2
          rw [fm_up_eq, hv h4]
        · rw [fm_up_nj e2]; exact ht q d h1 h2 (by omega) h4
      · rw [fm_up_ne e]; exact ht q d h1 h2 (by omega) h4
    refine fm_ild2 dX5_fillPrices_16 ?_
    refine fm_bipush (by decide) dX5_fillPrices_17 ?_
    refine fm_icmp_gt (⟨by omega, by omega⟩) (⟨by omega, by omega⟩) 63 dX5_fillPrices_19 (by decide) (fun h19 => ?_) (fun h19 => ?_)
    · exfalso; omega
    · refine fm_ald0 dX5_fillPrices_22 ?_
      refine gr_5_5 dX5_fillPrices_23 fd_X5_16 ?_
      refine fm_ild1 dX5_fillPrices_26 ?_
      refine ar_11 (by omega) (by omega) dX5_fillPrices_27 ?_
      refine fm_ild2 dX5_fillPrices_28 ?_
      refine fm_ald0 dX5_fillPrices_29 ?_
      refine fm_ild1 dX5_fillPrices_30 ?_
      refine fm_ild2 dX5_fillPrices_31 ?_
      refine fm_cvI dX5_fillPrices_32 cl_X5_87 (k_X5_canBe hi gt hp (by omega)) ob_9 rfl rfl (by decide) rfl rfl (Nat.le_of_ble_eq_true rfl) (fun z32 s32 q32 => ?_)
      obtain ⟨q32, rfl⟩ := q32
      refine fm_if_eq (⟨by omega, by omega⟩) 54 dX5_fillPrices_35 (by decide) (fun h35 => ?_) (fun h35 => ?_)
      · refine fm_ldc (n := 1000000) ck_X5_94 (by decide) dX5_fillPrices_54 ?_
        refine J _ (fun hm => ?_)
        first
          | (exfalso; omega)
          | (by_cases e : p + 1 < μ 1 6
             · rw [if_pos e, prc_s (by omega), show (p + 1).toNat = p.toNat + 1 by omega]
             · rw [if_neg e, prc_e (by omega)]; omega)
      · refine fm_ald0 dX5_fillPrices_38 ?_
        refine fm_ild1 dX5_fillPrices_39 ?_
        refine fm_ild2 dX5_fillPrices_40 ?_
        refine fm_cvI dX5_fillPrices_41 cl_X5_84 (k_X5_ownPrice hi gt hp (by omega) (by omega)) ob_9 rfl rfl (by decide) rfl rfl (Nat.le_of_ble_eq_true rfl) (fun z41 s41 q41 => ?_)
        obtain ⟨rfl, rfl⟩ := q41
        refine fm_ald0 dX5_fillPrices_44 ?_
        refine fm_ild1 dX5_fillPrices_45 ?_
        refine fm_ild2 dX5_fillPrices_46 ?_
        refine fm_cvI dX5_fillPrices_47 cl_X5_91 (k_X5_leastBehind hi gt hp (by omega) (by omega) (fun h9 d h1 h2 => ht (p + 1).toNat d (by omega) h1 (by omega) h2)) ob_9 rfl rfl (by decide) rfl rfl (Nat.le_of_ble_eq_true rfl) (fun z47 s47 q47 => ?_)
        obtain ⟨rfl, rfl⟩ := q47
        refine fm_iadd dX5_fillPrices_50 ?_
        refine fm_goto 56 dX5_fillPrices_51 (by decide) ?_
        refine J _ (fun hm => ?_)
        first
          | (exfalso; omega)
          | (by_cases e : p + 1 < μ 1 6
             · rw [if_pos e, prc_s (by omega), show (p + 1).toNat = p.toNat + 1 by omega]
             · rw [if_neg e, prc_e (by omega)]; omega)
set_option maxRecDepth 20000 in
set_option maxHeartbeats 4000000 in
theorem l_pf_out {ω : fm_O} {σ : fm_Mem} {Γ : fm_G} {P : Option Value → fm_Mem → Prop} {μ : fm_Mem} (hi : fj μ) (g : sg μ σ) (hK : ∀ τ : fm_Mem, fr7 σ τ → (∀ q d : Nat, (q : Int) < μ 1 6 → d < 7 → True → mayP μ q d → τ (104 + q) d = prc μ q d) → P none τ) : ∀ (d : Nat) (p : Int) (τ : fm_Mem) (o2 : Option Value), p + 1 = d → p < μ 1 6 → fr7 σ τ → (∀ q d : Nat, (q : Int) < μ 1 6 → d < 7 → p < (q : Int) → mayP μ q d → τ (104 + q) d = prc μ q d) → fm_W kc ω Γ (cX5_fillPrices, RX5, fm_rm 4, 3, none) P τ 10 [some (fm_r ω 9), some (fm_I p), o2] [] := by
  have hf := hi.fi
  have b6 := hf.2.1 6 (by omega)
  intro d
  induction d with
  | zero =>
    intro p τ o2 hd hp hr ht
    refine fm_ild1 dX5_fillPrices_10 ?_
    refine fm_if_lt (⟨by omega, by omega⟩) 69 dX5_fillPrices_11 (by decide) (fun h11 => ?_) (fun h11 => ?_)
    · exact fm_vret dX5_fillPrices_69 rfl (hK τ hr (fun q d h1 h2 _ h4 => ht q d h1 h2 (by omega) h4))
    · exfalso; omega
  | succ d ih =>
    intro p τ o2 hd hp hr ht
    have hK2 : ∀ (τ2 : fm_Mem) (o2 : Option Value), fr7 τ τ2 → (∀ q d : Nat, (q : Int) < μ 1 6 → d < 7 → p ≤ (q : Int) → mayP μ q d → τ2 (104 + q) d = prc μ q d) → fm_W kc ω Γ (cX5_fillPrices, RX5, fm_rm 4, 3, none) P τ2 63 [some (fm_r ω 9), some (fm_I p), o2] [] := by
      intro τ2 o2 hr2 ht2
      refine fm_inc1 rfl dX5_fillPrices_63 ?_
      refine fm_goto 10 dX5_fillPrices_66 (by decide) ?_
      exact ih (p + -1) τ2 _ (by omega) (by omega) (hr.trans hr2) (fun q d h1 h2 h3 h4 => ht2 q d h1 h2 (by omega) h4)
    refine fm_ild1 dX5_fillPrices_10 ?_
    refine fm_if_lt (⟨by omega, by omega⟩) 69 dX5_fillPrices_11 (by decide) (fun h11 => ?_) (fun h11 => ?_)
    · exfalso; omega
    · refine fm_iconst dX5_fillPrices_14 ?_
      refine fm_ist2 rfl dX5_fillPrices_15 ?_
      exact l_pf_in hi (g.fr7 hr) (by omega) hK2 7 0 τ (by omega) (by omega) fr7.rfl (fun q d h1 h2 h3 h4 => ht q d h1 h2 (by omega) h4)
set_option maxRecDepth 20000 in
set_option maxHeartbeats 4000000 in
theorem k_X5_fillPrices {ω : fm_O} {σ : fm_Mem} {μ : fm_Mem} (hi : fj μ) (g : sg μ σ) : fm_Met kc ω yX5_fillPrices cX5_fillPrices 3 none (fm_rm 4) [fm_r ω 9] σ (fm_pN fun σ' => fr7 σ σ' ∧ (∀ q d : Nat, (q : Int) < μ 1 6 → d < 7 → True → mayP μ q d → σ' (104 + q) d = prc μ q d)) := by
  refine fm_start (by decide) rfl (Nat.le_of_ble_eq_true rfl) [some (fm_r ω 9), none, none] rfl (fun Γ => ?_)
  have hf := hi.fi
  have h := g.1
  have hw := rel.cw hf h
  have b6 := hf.2.1 6 (by omega)
  have e6 := h.2.1.1
  refine fm_ald0 dX5_fillPrices_0 ?_
  refine gr_5_0 dX5_fillPrices_1 fd_X5_23 ?_
  refine gi_4_2 dX5_fillPrices_4 fd_X5_43 ?_
  rw [e6]
  refine fm_iconst dX5_fillPrices_7 ?_
  refine fm_isub dX5_fillPrices_8 ?_
  refine fm_ist1 rfl dX5_fillPrices_9 ?_
  exact l_pf_out hi g (fun τ hr ht => ⟨rfl, hr, ht⟩) (μ 1 6).toNat (μ 1 6 - 1) σ _ (by omega) (by omega) fr7.rfl (fun q d h1 h2 h3 h4 => by omega)
set_option maxRecDepth 20000 in
set_option maxHeartbeats 4000000 in
theorem l_ch1 {ω : fm_O} {σ : fm_Mem} {Γ : fm_G} {P : Option Value → fm_Mem → Prop} {μ : fm_Mem} (hi : fj μ) (h : rel μ σ) (hK : ∀ (τ : fm_Mem) (o1 : Option Value), frm σ τ → sg μ τ → fm_W kc ω Γ (cX5_choose, RX5, fm_rm 5, 3, none) P τ 19 [some (fm_r ω 9), o1, none] []) : ∀ (d : Nat) (z : Int) (τ : fm_Mem), 0 ≤ z → z + d = 6 → frm σ τ → (∀ c p : Nat, (c : Int) < z → (p : Int) < μ 1 6 → τ (57 + c) p = std μ c p) → fm_W kc ω Γ (cX5_choose, RX5, fm_rm 5, 3, none) P τ 2 [some (fm_r ω 9), some (fm_I z), none] [] := by
  intro d
  induction d with
  | zero =>
    intro z τ h0 hz hr ht
    refine fm_ild1 dX5_choose_2 ?_
    refine fm_bipush (by decide) dX5_choose_3 ?_
    refine fm_icmp_ge (⟨by omega, by omega⟩) (⟨by omega, by omega⟩) 19 dX5_choose_5 (by decide) (fun h5 => ?_) (fun h5 => ?_)
    · exact hK τ _ hr ⟨h.frm hr, fun c p hc hp => ht c p (by omega) hp⟩
    · exfalso; omega
  | succ d ih =>
    intro z τ h0 hz hr ht
    refine fm_ild1 dX5_choose_2 ?_
    refine fm_bipush (by decide) dX5_choose_3 ?_
    refine fm_icmp_ge (⟨by omega, by omega⟩) (⟨by omega, by omega⟩) 19 dX5_choose_5 (by decide) (fun h5 => ?_) (fun h5 => ?_)
    · exfalso; omega
    · refine fm_ald0 dX5_choose_8 ?_
      refine fm_ild1 dX5_choose_9 ?_
      refine fm_cvN dX5_choose_10 cl_X5_66 (k_X5_findStanding hi (h.frm hr) (by omega)) ob_9 rfl rfl (by decide) rfl rfl (Nat.le_of_ble_eq_true rfl) (fun s10 q10 => ?_)
      refine fm_inc1 rfl dX5_choose_13 ?_
      refine fm_goto 2 dX5_choose_16 (by decide) ?_
      refine ih (z + 1) s10 (by omega) (by omega) (hr.trans q10.1.frm) (fun c p hc hp => ?_)
      by_cases e : c = z.toNat
      · rw [e]; exact q10.2 p hp
      · rw [q10.1 (57 + c) p (by omega) (by omega) (by omega)]; exact ht c p (by omega) hp
set_option maxRecDepth 20000 in
set_option maxHeartbeats 4000000 in
theorem l_ch2 {ω : fm_O} {σ σ1 : fm_Mem} {Γ : fm_G} {μ : fm_Mem} (hi : fj μ) (g : sg μ σ1) (h1 : frm σ σ1) (hrw : (∀ q d : Nat, (q : Int) < μ 1 6 → d < 7 → True → mayP μ q d → σ1 (104 + q) d = prc μ q d)) : ∀ (d : Nat) (p : Int) (τ : fm_Mem) (o2 : Option Value), 0 ≤ p → p + d = μ 1 6 → (∀ k x, k ≠ 9 → k ≠ 12 → τ k x = σ1 k x) → (∀ q : Nat, (q : Int) < p → τ 12 q = srcs μ q) → 0 ≤ τ 9 7 → τ 9 7 + (if p < μ 1 6 then mv μ p.toNat (ahd μ p.toNat) else 0) = tot μ → fm_W kc ω Γ (cX5_choose, RX5, fm_rm 5, 3, none) (fm_pN fun σ' => sg μ σ' ∧ frm σ σ' ∧ (∀ q : Nat, (q : Int) < μ 1 6 → σ' 12 q = srcs μ q) ∧ σ' 9 7 = tot μ) τ 30 [some (fm_r ω 9), some (fm_I p), o2] [] := by
  have hf := hi.fi
  have b6 := hf.2.1 6 (by omega)
  intro d
  induction d with
  | zero =>
    intro p τ o2 h0 hp hr hc ha ht
    have hr7 : fr7 σ1 τ := fun k x q1 q2 _ => hr k x q1 q2
    have gt := g.fr7 hr7
    have e6 := gt.1.2.1.1
    refine fm_ild1 dX5_choose_30 ?_
    refine fm_ald0 dX5_choose_31 ?_
    refine gr_5_0 dX5_choose_32 fd_X5_23 ?_
    refine gi_4_2 dX5_choose_35 fd_X5_43 ?_
    rw [e6]
    refine fm_icmp_ge (⟨by omega, by omega⟩) (⟨by omega, by omega⟩) 110 dX5_choose_38 (by decide) (fun h38 => ?_) (fun h38 => ?_)
    · exact fm_vretN dX5_choose_110 rfl ⟨gt, h1.trans hr7.frm, fun q hq => hc q (by omega), by rw [if_neg (by omega)] at ht; omega⟩
    · exfalso; omega
  | succ d ih =>
    intro p τ o2 h0 hp hr hc ha ht
    have hr7 : fr7 σ1 τ := fun k x q1 q2 _ => hr k x q1 q2
    have gt := g.fr7 hr7
    have e6 := gt.1.2.1.1
    obtain ⟨d1, d2⟩ := ahd_ok hf p.toNat
    obtain ⟨s1, s2⟩ := srcs_ok hf p.toNat
    obtain ⟨a1, a2, a3⟩ := am_ok hf p.toNat (ahd μ p.toNat)
    rw [← srcs_a] at a3
    have gt1 : sg μ (fm_up τ 12 p.toNat (srcs μ p.toNat : Int)) := gt.fr7 (fr7.rfl.up (by omega))
    have y1 := jn_b hf p.toNat (ahd μ p.toNat) (srcs μ p.toNat)
    have y2 := own_b hf p.toNat (srcs μ p.toNat)
    have y3 : fv μ p.toNat (ahd μ p.toNat) (srcs μ p.toNat) = jn μ p.toNat (ahd μ p.toNat) (srcs μ p.toNat) + prc μ p.toNat (srcs μ p.toNat) := rfl
    have hm : (ahd μ p.toNat : Int) = 6 ∨ p = 0 ∨ mayP μ (p - 1).toNat (ahd μ p.toNat : Int).toNat := by
      rcases d2 with e | e
      · left; omega
      · right; right
        rw [Int.toNat_natCast, show (p - 1).toNat = p.toNat - 1 by omega]
        exact e.2
    have J : fm_W kc ω Γ (cX5_choose, RX5, fm_rm 5, 3, none) (fm_pN fun σ' => sg μ σ' ∧ frm σ σ' ∧ (∀ q : Nat, (q : Int) < μ 1 6 → σ' 12 q = srcs μ q) ∧ σ' 9 7 = tot μ) τ 58 [some (fm_r ω 9), some (fm_I p), o2] [fm_I (ahd μ p.toNat : Int)] := by
      refine fm_ist2 rfl dX5_choose_58 ?_
      refine fm_ald0 dX5_choose_59 ?_
      refine gr_5_6 dX5_choose_60 fd_X5_19 ?_
      refine fm_ild1 dX5_choose_63 ?_
      refine fm_ald0 dX5_choose_64 ?_
      refine fm_ild1 dX5_choose_65 ?_
      refine fm_ild2 dX5_choose_66 ?_
      refine fm_cvI dX5_choose_67 cl_X5_76 (k_X5_bestSource hi gt (by omega) (by omega) hm (fun d h1 h2 => by rw [hr _ _ (by omega) (by omega)]; exact hrw p.toNat d (by omega) h1 trivial h2)) ob_9 rfl rfl (by decide) rfl rfl (Nat.le_of_ble_eq_true rfl) (fun z67 s67 q67 => ?_)
      obtain ⟨rfl, rfl⟩ := q67
      rw [Int.toNat_natCast, ← srcs_a]
      refine fm_iast dX5_choose_70 ia_12 (by omega) (by omega) ?_
      refine fm_ald0 dX5_choose_71 ?_
      refine fm_dupR dX5_choose_72 ?_
      refine gi_5_7 dX5_choose_73 fd_X5_73 ?_
      rw [fm_up_ne (by omega)]
      refine fm_ald0 dX5_choose_76 ?_
      refine fm_ild1 dX5_choose_77 ?_
      refine fm_ild2 dX5_choose_78 ?_
      refine fm_ald0 dX5_choose_79 ?_
      refine gr_5_6 dX5_choose_80 fd_X5_19 ?_
      refine fm_ild1 dX5_choose_83 ?_
      refine fm_iald dX5_choose_84 ia_12 (by omega) (by omega) ?_
      rw [fm_up_eq]
      refine fm_cvI dX5_choose_85 cl_X5_80 (k_X5_joinPrice hi gt1 (by omega) (by omega) (by omega) hm (by rw [Int.toNat_natCast]; exact s2)) ob_9 rfl rfl (by decide) rfl rfl (Nat.le_of_ble_eq_true rfl) (fun z85 s85 q85 => ?_)
      obtain ⟨rfl, rfl⟩ := q85
      refine fm_ald0 dX5_choose_88 ?_
      refine fm_ild1 dX5_choose_89 ?_
      refine fm_ald0 dX5_choose_90 ?_
      refine gr_5_6 dX5_choose_91 fd_X5_19 ?_
      refine fm_ild1 dX5_choose_94 ?_
      refine fm_iald dX5_choose_95 ia_12 (by omega) (by omega) ?_
      rw [fm_up_eq]
      refine fm_cvI dX5_choose_96 cl_X5_84 (k_X5_ownPrice hi gt1 (by omega) (by omega) (by rw [Int.toNat_natCast]; exact s2)) ob_9 rfl rfl (by decide) rfl rfl (Nat.le_of_ble_eq_true rfl) (fun z96 s96 q96 => ?_)
      obtain ⟨rfl, rfl⟩ := q96
      rw [Int.toNat_natCast, Int.toNat_natCast]
      refine fm_iadd dX5_choose_99 ?_
      refine fm_iadd dX5_choose_100 ?_
      refine pf_5_7 dX5_choose_101 fd_X5_73 ?_
      refine fm_inc1 rfl dX5_choose_104 ?_
      refine fm_goto 30 dX5_choose_107 (by decide) ?_
      refine ih (p + 1) _ _ (by omega) (by omega) (fun k x q1 q2 => by rw [fm_up_ne q1, fm_up_ne q2]; exact hr k x q1 q2) (fun q hq => ?_) ?_ ?_
      · rw [fm_up_ne (by omega)]
        by_cases e : q = p.toNat
        · rw [e, fm_up_eq]
        · rw [fm_up_nj e]; exact hc q (by omega)
      · rw [fm_up_eq]; omega
      · rw [fm_up_eq]
        rw [if_pos (by omega), a3, y3] at ht
        by_cases e : p + 1 < μ 1 6
        · rw [if_pos e, show (p + 1).toNat = p.toNat + 1 by omega]
          rw [prc_s (by omega)] at ht
          have e9 : ahd μ (p.toNat + 1) = srcs μ p.toNat := rfl
          rw [e9]
          omega
        · rw [if_neg e]
          rw [prc_e (by omega)] at ht
          omega
    refine fm_ild1 dX5_choose_30 ?_
    refine fm_ald0 dX5_choose_31 ?_
    refine gr_5_0 dX5_choose_32 fd_X5_23 ?_
    refine gi_4_2 dX5_choose_35 fd_X5_43 ?_
    rw [e6]
    refine fm_icmp_ge (⟨by omega, by omega⟩) (⟨by omega, by omega⟩) 110 dX5_choose_38 (by decide) (fun h38 => ?_) (fun h38 => ?_)
    · exfalso; omega
    · refine fm_ild1 dX5_choose_41 ?_
      refine fm_if_ne (⟨by omega, by omega⟩) 50 dX5_choose_42 (by decide) (fun h42 => ?_) (fun h42 => ?_)
      · refine fm_ald0 dX5_choose_50 ?_
        refine gr_5_6 dX5_choose_51 fd_X5_19 ?_
        refine fm_ild1 dX5_choose_54 ?_
        refine fm_iconst dX5_choose_55 ?_
        refine fm_isub dX5_choose_56 ?_
        refine fm_iald dX5_choose_57 ia_12 (by omega) (by omega) ?_
        refine fm_top (show τ 12 (p - 1).toNat = (ahd μ p.toNat : Int) by rw [hc _ (by omega)]; unfold ahd; rw [if_neg (by omega), show (p - 1).toNat = p.toNat - 1 by omega]) ?_
        exact J
      · refine fm_bipush (by decide) dX5_choose_45 ?_
        refine fm_top (show (6 : Int) = (ahd μ p.toNat : Int) by unfold ahd; rw [if_pos (by omega)]; rfl) ?_
        refine fm_goto 58 dX5_choose_47 (by decide) ?_
        exact J
set_option maxRecDepth 20000 in
set_option maxHeartbeats 4000000 in
theorem k_X5_choose {ω : fm_O} {σ : fm_Mem} {μ : fm_Mem} (hi : fj μ) (h : rel μ σ) : fm_Met kc ω yX5_choose cX5_choose 3 none (fm_rm 5) [fm_r ω 9] σ (fm_pN fun σ' => sg μ σ' ∧ frm σ σ' ∧ (∀ q : Nat, (q : Int) < μ 1 6 → σ' 12 q = srcs μ q) ∧ σ' 9 7 = tot μ) := by
  refine fm_start (by decide) rfl (Nat.le_of_ble_eq_true rfl) [some (fm_r ω 9), none, none] rfl (fun Γ => ?_)
  refine fm_iconst dX5_choose_0 ?_
  refine fm_ist1 rfl dX5_choose_1 ?_
  refine l_ch1 hi h (fun τ o1 hr gτ => ?_) 6 0 σ (by omega) (by omega) frm.rfl (fun c p hc hp => by omega)
  refine fm_ald0 dX5_choose_19 ?_
  refine fm_cvN dX5_choose_20 cl_X5_70 (k_X5_fillPrices hi gτ) ob_9 rfl rfl (by decide) rfl rfl (Nat.le_of_ble_eq_true rfl) (fun s20 q20 => ?_)
  refine fm_ald0 dX5_choose_23 ?_
  refine fm_iconst dX5_choose_24 ?_
  refine pf_5_7 dX5_choose_25 fd_X5_73 ?_
  refine fm_iconst dX5_choose_28 ?_
  refine fm_ist1 rfl dX5_choose_29 ?_
  have b6 := hi.fi.2.1 6 (by omega)
  refine l_ch2 hi (gτ.fr7 q20.1) (hr.trans q20.1.frm) q20.2 (μ 1 6).toNat 0 _ _ (by omega) (by omega) (fun k x q1 q2 => by rw [fm_up_ne q1]) (fun q hq => by omega) (by rw [fm_up_eq]; omega) ?_
  rw [fm_up_eq]
  unfold tot
  by_cases e : μ 1 6 = 0
  · rw [if_pos e, if_neg (by omega)]; rfl
  · rw [if_neg e, if_pos (by omega), Int.zero_add]; rfl
