theorem fm_up2 {τ : fm_Mem} {k i : Nat} {u v : Int} : fm_up (fm_up τ k i u) k i v = fm_up τ k i v := by
  funext a b
  unfold fm_up
  split
  · rfl
  · rfl
set_option maxRecDepth 20000 in
set_option maxHeartbeats 4000000 in
theorem k_X1_canLeaveSecond {ω : fm_O} {σ : fm_Mem} {i j : Int} (hi : 0 ≤ i ∧ i < 41) (hj : 0 ≤ j ∧ j < 40) (b1 : (0 ≤ σ (63 + i.toNat) j.toNat ∧ σ (63 + i.toNat) j.toNat ≤ 1000)) (b2 : (0 ≤ σ (63 + i.toNat) (j + 1).toNat ∧ σ (63 + i.toNat) (j + 1).toNat ≤ 1000)) : fm_Met kc ω yX1_canLeaveSecond cX1_canLeaveSecond 3 (some .boolean) (fm_rm 0) [fm_r ω 6, fm_I i, fm_I j] σ (fm_pI fun z σ' => ((σ (63 + i.toNat) j.toNat = 3 + σ (63 + i.toNat) (j + 1).toNat) ∧ z = 1 ∨ ¬ (σ (63 + i.toNat) j.toNat = 3 + σ (63 + i.toNat) (j + 1).toNat) ∧ z = 0) ∧ σ = σ') := by
  refine fm_start (by decide) rfl (Nat.le_of_ble_eq_true rfl) [some (fm_r ω 6), some (fm_I i), some (fm_I j)] rfl (fun Γ => ?_)
  refine fm_ald0 dX1_canLeaveSecond_0 ?_
  refine gr_1_0 dX1_canLeaveSecond_1 fd_X1_11 ?_
  refine fm_ild1 dX1_canLeaveSecond_4 ?_
  refine ar_7 (by omega) (by omega) dX1_canLeaveSecond_5 ?_
  refine fm_ild2 dX1_canLeaveSecond_6 ?_
  refine fm_iald dX1_canLeaveSecond_7 (ia_ll (by omega)) (by omega) (by omega) ?_
  refine fm_iconst dX1_canLeaveSecond_8 ?_
  refine fm_ald0 dX1_canLeaveSecond_9 ?_
  refine gr_1_0 dX1_canLeaveSecond_10 fd_X1_11 ?_
  refine fm_ild1 dX1_canLeaveSecond_13 ?_
  refine ar_7 (by omega) (by omega) dX1_canLeaveSecond_14 ?_
  refine fm_ild2 dX1_canLeaveSecond_15 ?_
  refine fm_iconst dX1_canLeaveSecond_16 ?_
  refine fm_iadd dX1_canLeaveSecond_17 ?_
  refine fm_iald dX1_canLeaveSecond_18 (ia_ll (by omega)) (by omega) (by omega) ?_
  refine fm_iadd dX1_canLeaveSecond_19 ?_
  refine fm_icmp_ne (⟨by omega, by omega⟩) (⟨by omega, by omega⟩) 27 dX1_canLeaveSecond_20 (by decide) (fun h20 => ?_) (fun h20 => ?_)
  · refine fm_iconst dX1_canLeaveSecond_27 ?_
    exact fm_zretI dX1_canLeaveSecond_28 rfl (by omega) ⟨by omega, rfl⟩
  · refine fm_iconst dX1_canLeaveSecond_23 ?_
    refine fm_goto 28 dX1_canLeaveSecond_24 (by decide) ?_
    exact fm_zretI dX1_canLeaveSecond_28 rfl (by omega) ⟨by omega, rfl⟩
set_option maxRecDepth 20000 in
set_option maxHeartbeats 4000000 in
theorem k_X1_canPair {ω : fm_O} {σ : fm_Mem} {a b : Nat} (ha : fm_ia kc a 40) (hb : fm_ia kc b 40) {i j : Int} (hi : 0 ≤ i ∧ i < 40) (hj : 0 ≤ j ∧ j < 40) (ma : 0 ≤ σ a i.toNat ∧ σ a i.toNat ≤ 63) (mb : 0 ≤ σ b j.toNat ∧ σ b j.toNat ≤ 63) (b1 : (0 ≤ σ (63 + i.toNat) j.toNat ∧ σ (63 + i.toNat) j.toNat ≤ 1000)) (b2 : (0 ≤ σ (63 + (i + 1).toNat) (j + 1).toNat ∧ σ (63 + (i + 1).toNat) (j + 1).toNat ≤ 1000)) : fm_Met kc ω yX1_canPair cX1_canPair 5 (some .boolean) (fm_rm 2) [fm_r ω 6, fm_r ω a, fm_I i, fm_r ω b, fm_I j] σ (fm_pI fun z σ' => ((σ (63 + i.toNat) j.toNat = pcost (σ a i.toNat) (σ b j.toNat) + σ (63 + (i + 1).toNat) (j + 1).toNat) ∧ z = 1 ∨ ¬ (σ (63 + i.toNat) j.toNat = pcost (σ a i.toNat) (σ b j.toNat) + σ (63 + (i + 1).toNat) (j + 1).toNat) ∧ z = 0) ∧ σ = σ') := by
  refine fm_start (by decide) rfl (Nat.le_of_ble_eq_true rfl) [some (fm_r ω 6), some (fm_r ω a), some (fm_I i), some (fm_r ω b), some (fm_I j)] rfl (fun Γ => ?_)
  refine fm_ald0 dX1_canPair_0 ?_
  refine gr_1_0 dX1_canPair_1 fd_X1_11 ?_
  refine fm_ild2 dX1_canPair_4 ?_
  refine ar_7 (by omega) (by omega) dX1_canPair_5 ?_
  refine fm_ild4 dX1_canPair_6 ?_
  refine fm_iald dX1_canPair_8 (ia_ll (by omega)) (by omega) (by omega) ?_
  refine fm_ald1 dX1_canPair_9 ?_
  refine fm_ild2 dX1_canPair_10 ?_
  refine fm_iald dX1_canPair_11 ha (by omega) (by omega) ?_
  refine fm_ald3 dX1_canPair_12 ?_
  refine fm_ild4 dX1_canPair_13 ?_
  refine fm_iald dX1_canPair_15 hb (by omega) (by omega) ?_
  refine fm_csI dX1_canPair_16 cl_X1_38 (k_X1_pairCost ma mb) rfl rfl (by decide) rfl rfl (Nat.le_of_ble_eq_true rfl) (fun z16 s16 q16 => ?_)
  obtain ⟨rfl, rfl⟩ := q16
  have bp := pcost_b (σ a i.toNat) (σ b j.toNat)
  refine fm_ald0 dX1_canPair_19 ?_
  refine gr_1_0 dX1_canPair_20 fd_X1_11 ?_
  refine fm_ild2 dX1_canPair_23 ?_
  refine fm_iconst dX1_canPair_24 ?_
  refine fm_iadd dX1_canPair_25 ?_
  refine ar_7 (by omega) (by omega) dX1_canPair_26 ?_
  refine fm_ild4 dX1_canPair_27 ?_
  refine fm_iconst dX1_canPair_29 ?_
  refine fm_iadd dX1_canPair_30 ?_
  refine fm_iald dX1_canPair_31 (ia_ll (by omega)) (by omega) (by omega) ?_
  refine fm_iadd dX1_canPair_32 ?_
  refine fm_icmp_ne (⟨by omega, by omega⟩) (⟨by omega, by omega⟩) 40 dX1_canPair_33 (by decide) (fun h33 => ?_) (fun h33 => ?_)
  · refine fm_iconst dX1_canPair_40 ?_
    exact fm_zretI dX1_canPair_41 rfl (by omega) ⟨by omega, rfl⟩
  · refine fm_iconst dX1_canPair_36 ?_
    refine fm_goto 41 dX1_canPair_37 (by decide) ?_
    exact fm_zretI dX1_canPair_41 rfl (by omega) ⟨by omega, rfl⟩
def fr2 (σ τ : fm_Mem) : Prop := ∀ k x, (k < 63 ∨ 104 ≤ k) → τ k x = σ k x
def fr3 (σ τ : fm_Mem) : Prop := ∀ k x, (k < 63 ∨ 104 ≤ k) → k ≠ 8 → τ k x = σ k x
def tbc (f g : Nat → Int) (N M : Nat) (τ : fm_Mem) (i j : Int) : Prop := ∀ x y : Nat, x ≤ N → y ≤ M → (i < x ∨ (i = x ∧ j < y)) → τ (63 + x) y = lct f g N M x y
theorem fr2.rfl {a : fm_Mem} : fr2 a a := fun _ _ _ => Eq.refl _
theorem fr2.up {a b : fm_Mem} {k j : Nat} {v : Int} (h : fr2 a b) (hk : 63 ≤ k ∧ k < 104) : fr2 a (fm_up b k j v) := fun k2 j2 h1 => by
  rw [fm_up_ne (by omega)]
  exact h k2 j2 h1
theorem fr3.frm {a b : fm_Mem} (h : fr3 a b) : frm a b := fun k j hk => by
  unfold scr at hk
  exact h k j (by omega) (by omega)
set_option maxRecDepth 20000 in
set_option maxHeartbeats 4000000 in
theorem l_fl1 {ω : fm_O} {σ : fm_Mem} {Γ : fm_G} {P : Option Value → fm_Mem → Prop} {a b : Nat} (ha : fm_ia kc a 40) (hb : fm_ia kc b 40) (na : a < 57) (nb : b < 57) (ma : ∀ i, i < 40 → 0 ≤ σ a i ∧ σ a i ≤ 63) (mb : ∀ i, i < 40 → 0 ≤ σ b i ∧ σ b i ≤ 63) (N M : Nat) (hN : N ≤ 40) (hM : M ≤ 40) (hK : ∀ (τ : fm_Mem) (o5 : Option Value), fr2 σ τ → tbc (σ a) (σ b) N M τ ((N : Int) - 1) M → fm_W kc ω Γ (cX1_fillCosts, RX1, fm_rm 2, 10, none) P τ 32 [some (fm_r ω 6), some (fm_r ω a), some (fm_I (N : Int)), some (fm_r ω b), some (fm_I (M : Int)), o5, none, none, none, none] []) : ∀ (d : Nat) (z : Int) (τ : fm_Mem), 0 ≤ z → z + d = M + 1 → fr2 σ τ → (∀ y : Nat, (y : Int) < z → τ (63 + N) y = lct (σ a) (σ b) N M N y) → fm_W kc ω Γ (cX1_fillCosts, RX1, fm_rm 2, 10, none) P τ 3 [some (fm_r ω 6), some (fm_r ω a), some (fm_I (N : Int)), some (fm_r ω b), some (fm_I (M : Int)), some (fm_I z), none, none, none, none] [] := by
  intro d
  induction d with
  | zero =>
    intro z τ h0 hz hr ht
    refine fm_ild5 dX1_fillCosts_3 ?_
    refine fm_ild4 dX1_fillCosts_5 ?_
    refine fm_icmp_gt (⟨by omega, by omega⟩) (⟨by omega, by omega⟩) 32 dX1_fillCosts_7 (by decide) (fun h7 => ?_) (fun h7 => ?_)
    · exact hK τ _ hr (fun x y hx hy hxy => by rw [show x = N by omega]; exact ht y (by omega))
    · exfalso; omega
  | succ d ih =>
    intro z τ h0 hz hr ht
    refine fm_ild5 dX1_fillCosts_3 ?_
    refine fm_ild4 dX1_fillCosts_5 ?_
    refine fm_icmp_gt (⟨by omega, by omega⟩) (⟨by omega, by omega⟩) 32 dX1_fillCosts_7 (by decide) (fun h7 => ?_) (fun h7 => ?_)
    · exfalso; omega
    · refine fm_ald0 dX1_fillCosts_10 ?_
      refine gr_1_0 dX1_fillCosts_11 fd_X1_11 ?_
      refine fm_ild2 dX1_fillCosts_14 ?_
      refine ar_7 (by omega) (by omega) dX1_fillCosts_15 ?_
      rw [Int.toNat_natCast]
      refine fm_ild5 dX1_fillCosts_16 ?_
      refine fm_iconst dX1_fillCosts_18 ?_
      refine fm_ild4 dX1_fillCosts_19 ?_
      refine fm_ild5 dX1_fillCosts_21 ?_
      refine fm_isub dX1_fillCosts_23 ?_
      refine fm_imul dX1_fillCosts_24 ?_
      refine fm_iast dX1_fillCosts_25 (ia_ll (by omega)) (by omega) (by omega) ?_
      refine fm_inc5 rfl dX1_fillCosts_26 ?_
      refine fm_goto 3 dX1_fillCosts_29 (by decide) ?_
      refine ih (z + 1) _ (by omega) (by omega) (hr.up (by omega)) (fun y hy => ?_)
      by_cases e : y = z.toNat
      · rw [e, fm_up_eq, lct_n (by omega)]; omega
      · rw [fm_up_nj e]; exact ht y (by omega)
set_option maxRecDepth 20000 in
set_option maxHeartbeats 4000000 in
theorem l_fl2 {ω : fm_O} {σ : fm_Mem} {Γ : fm_G} {P : Option Value → fm_Mem → Prop} {a b : Nat} (ha : fm_ia kc a 40) (hb : fm_ia kc b 40) (na : a < 57) (nb : b < 57) (ma : ∀ i, i < 40 → 0 ≤ σ a i ∧ σ a i ≤ 63) (mb : ∀ i, i < 40 → 0 ≤ σ b i ∧ σ b i ≤ 63) (N M : Nat) (hN : N ≤ 40) (hM : M ≤ 40) {i : Int} (hi : 0 ≤ i ∧ i < N) (hK : ∀ (τ : fm_Mem) (o8 o9 : Option Value), fr2 σ τ → tbc (σ a) (σ b) N M τ i (-1) → fm_W kc ω Γ (cX1_fillCosts, RX1, fm_rm 2, 10, none) P τ 138 [some (fm_r ω 6), some (fm_r ω a), some (fm_I (N : Int)), some (fm_r ω b), some (fm_I (M : Int)), some (fm_I i), some (fm_r ω (63 + i.toNat)), some (fm_r ω (63 + (i + 1).toNat)), o8, o9] []) : ∀ (d : Nat) (j : Int) (τ : fm_Mem) (o9 : Option Value), j + 1 = d → j < M → fr2 σ τ → tbc (σ a) (σ b) N M τ i j → fm_W kc ω Γ (cX1_fillCosts, RX1, fm_rm 2, 10, none) P τ 79 [some (fm_r ω 6), some (fm_r ω a), some (fm_I (N : Int)), some (fm_r ω b), some (fm_I (M : Int)), some (fm_I i), some (fm_r ω (63 + i.toNat)), some (fm_r ω (63 + (i + 1).toNat)), some (fm_I j), o9] [] := by
  have ei : (i + 1).toNat = i.toNat + 1 := by omega
  intro d
  induction d with
  | zero =>
    intro j τ o9 hd hj hr ht
    refine fm_ild8 dX1_fillCosts_79 ?_
    refine fm_if_lt (⟨by omega, by omega⟩) 138 dX1_fillCosts_81 (by decide) (fun h81 => ?_) (fun h81 => ?_)
    · exact hK τ _ _ hr (by rw [show (-1 : Int) = j by omega]; exact ht)
    · exfalso; omega
  | succ d ih =>
    intro j τ o9 hd hj hr ht
    have bL := lct_b (f := (σ a)) (g := (σ b)) (i := i.toNat) (j := j.toNat + 1) hN hM
    have bU := lct_b (f := (σ a)) (g := (σ b)) (i := i.toNat + 1) (j := j.toNat) hN hM
    have bD := lct_b (f := (σ a)) (g := (σ b)) (i := i.toNat + 1) (j := j.toNat + 1) hN hM
    have bP := pcost_b (σ a i.toNat) (σ b j.toNat)
    have ej : (j + 1).toNat = j.toNat + 1 := by omega
    have rL : τ (63 + i.toNat) (j.toNat + 1) = lct (σ a) (σ b) N M i.toNat (j.toNat + 1) := ht _ _ (by omega) (by omega) (by omega)
    have rU : τ (63 + (i.toNat + 1)) j.toNat = lct (σ a) (σ b) N M (i.toNat + 1) j.toNat := ht _ _ (by omega) (by omega) (by omega)
    have rD : τ (63 + (i.toNat + 1)) (j.toNat + 1) = lct (σ a) (σ b) N M (i.toNat + 1) (j.toNat + 1) := ht _ _ (by omega) (by omega) (by omega)
    have rA : τ a i.toNat = σ a i.toNat := hr _ _ (by omega)
    have rB : τ b j.toNat = σ b j.toNat := hr _ _ (by omega)
    have m1 := ma i.toNat (by omega)
    have m2 := mb j.toNat (by omega)
    refine fm_ild8 dX1_fillCosts_79 ?_
    refine fm_if_lt (⟨by omega, by omega⟩) 138 dX1_fillCosts_81 (by decide) (fun h81 => ?_) (fun h81 => ?_)
    · exfalso; omega
    · refine fm_iconst dX1_fillCosts_84 ?_
      refine fm_ald6 dX1_fillCosts_85 ?_
      refine fm_ild8 dX1_fillCosts_87 ?_
      refine fm_iconst dX1_fillCosts_89 ?_
      refine fm_iadd dX1_fillCosts_90 ?_
      refine fm_iald dX1_fillCosts_91 (ia_ll (by omega)) (by omega) (by omega) ?_
      rw [ej, rL]
      refine fm_ald7 dX1_fillCosts_92 ?_
      refine fm_ild8 dX1_fillCosts_94 ?_
      refine fm_iald dX1_fillCosts_96 (ia_ll (by omega)) (by omega) (by omega) ?_
      rw [ei, rU]
      refine fm_min dX1_fillCosts_97 cl_X1_32 (by decide) (Nat.le_of_ble_eq_true rfl) (⟨by omega, by omega⟩) (⟨by omega, by omega⟩) ?_
      refine fm_iadd dX1_fillCosts_100 ?_
      refine fm_ist9 rfl dX1_fillCosts_101 ?_
      refine fm_ald6 dX1_fillCosts_103 ?_
      refine fm_ild8 dX1_fillCosts_105 ?_
      refine fm_ild9 dX1_fillCosts_107 ?_
      refine fm_ald1 dX1_fillCosts_109 ?_
      refine fm_ild5 dX1_fillCosts_110 ?_
      refine fm_iald dX1_fillCosts_112 ha (by omega) (by omega) ?_
      rw [rA]
      refine fm_ald3 dX1_fillCosts_113 ?_
      refine fm_ild8 dX1_fillCosts_114 ?_
      refine fm_iald dX1_fillCosts_116 hb (by omega) (by omega) ?_
      rw [rB]
      refine fm_csI dX1_fillCosts_117 cl_X1_38 (k_X1_pairCost m1 m2) rfl rfl (by decide) rfl rfl (Nat.le_of_ble_eq_true rfl) (fun z117 s117 q117 => ?_)
      obtain ⟨rfl, rfl⟩ := q117
      refine fm_ald7 dX1_fillCosts_120 ?_
      refine fm_ild8 dX1_fillCosts_122 ?_
      refine fm_iconst dX1_fillCosts_124 ?_
      refine fm_iadd dX1_fillCosts_125 ?_
      refine fm_iald dX1_fillCosts_126 (ia_ll (by omega)) (by omega) (by omega) ?_
      rw [ej, rD]
      refine fm_iadd dX1_fillCosts_127 ?_
      refine fm_min dX1_fillCosts_128 cl_X1_32 (by decide) (Nat.le_of_ble_eq_true rfl) (⟨by omega, by omega⟩) (⟨by omega, by omega⟩) ?_
      refine fm_iast dX1_fillCosts_131 (ia_ll (by omega)) (by omega) (by omega) ?_
      refine fm_inc8 rfl dX1_fillCosts_132 ?_
      refine fm_goto 79 dX1_fillCosts_135 (by decide) ?_
      rw [← ei]
      refine ih (j + -1) _ _ (by omega) (by omega) (hr.up (by omega)) (fun x y hx hy hxy => ?_)
      by_cases e : 63 + x = 63 + i.toNat
      · by_cases e2 : y = j.toNat
        · rw [e, e2, fm_up_eq, show x = i.toNat by omega, lct_s (i := i.toNat) (j := j.toNat) (by omega) (by omega), ei]
        · rw [fm_up_nj e2]; exact ht x y hx hy (by omega)
      · rw [fm_up_ne e]; exact ht x y hx hy (by omega)
set_option maxRecDepth 20000 in
set_option maxHeartbeats 4000000 in
theorem l_fl3 {ω : fm_O} {σ : fm_Mem} {Γ : fm_G} {P : Option Value → fm_Mem → Prop} {a b : Nat} (ha : fm_ia kc a 40) (hb : fm_ia kc b 40) (na : a < 57) (nb : b < 57) (ma : ∀ i, i < 40 → 0 ≤ σ a i ∧ σ a i ≤ 63) (mb : ∀ i, i < 40 → 0 ≤ σ b i ∧ σ b i ≤ 63) (N M : Nat) (hN : N ≤ 40) (hM : M ≤ 40) (hK : ∀ (τ : fm_Mem), fr2 σ τ → tbc (σ a) (σ b) N M τ (-1) M → P none τ) : ∀ (d : Nat) (i : Int) (τ : fm_Mem) (o6 o7 o8 o9 : Option Value), i + 1 = d → i < N → fr2 σ τ → tbc (σ a) (σ b) N M τ i M → fm_W kc ω Γ (cX1_fillCosts, RX1, fm_rm 2, 10, none) P τ 37 [some (fm_r ω 6), some (fm_r ω a), some (fm_I (N : Int)), some (fm_r ω b), some (fm_I (M : Int)), some (fm_I i), o6, o7, o8, o9] [] := by
  intro d
  induction d with
  | zero =>
    intro i τ o6 o7 o8 o9 hd hi hr ht
    refine fm_ild5 dX1_fillCosts_37 ?_
    refine fm_if_lt (⟨by omega, by omega⟩) 144 dX1_fillCosts_39 (by decide) (fun h39 => ?_) (fun h39 => ?_)
    · exact fm_vret dX1_fillCosts_144 rfl (hK τ hr (by rw [show (-1 : Int) = i by omega]; exact ht))
    · exfalso; omega
  | succ d ih =>
    intro i τ o6 o7 o8 o9 hd hi hr ht
    have hK2 : ∀ (τ : fm_Mem) (o8 o9 : Option Value), fr2 σ τ → tbc (σ a) (σ b) N M τ i (-1) → fm_W kc ω Γ (cX1_fillCosts, RX1, fm_rm 2, 10, none) P τ 138 [some (fm_r ω 6), some (fm_r ω a), some (fm_I (N : Int)), some (fm_r ω b), some (fm_I (M : Int)), some (fm_I i), some (fm_r ω (63 + i.toNat)), some (fm_r ω (63 + (i + 1).toNat)), o8, o9] [] := by
      intro τ o8 o9 hr ht
      refine fm_inc5 rfl dX1_fillCosts_138 ?_
      refine fm_goto 37 dX1_fillCosts_141 (by decide) ?_
      exact ih (i + -1) τ _ _ _ _ (by omega) (by omega) hr (fun x y hx hy hxy => ht x y hx hy (by omega))
    refine fm_ild5 dX1_fillCosts_37 ?_
    refine fm_if_lt (⟨by omega, by omega⟩) 144 dX1_fillCosts_39 (by decide) (fun h39 => ?_) (fun h39 => ?_)
    · exfalso; omega
    · refine fm_ald0 dX1_fillCosts_42 ?_
      refine gr_1_0 dX1_fillCosts_43 fd_X1_11 ?_
      refine fm_ild5 dX1_fillCosts_46 ?_
      refine ar_7 (by omega) (by omega) dX1_fillCosts_48 ?_
      refine fm_ast6 rfl dX1_fillCosts_49 ?_
      refine fm_ald0 dX1_fillCosts_51 ?_
      refine gr_1_0 dX1_fillCosts_52 fd_X1_11 ?_
      refine fm_ild5 dX1_fillCosts_55 ?_
      refine fm_iconst dX1_fillCosts_57 ?_
      refine fm_iadd dX1_fillCosts_58 ?_
      refine ar_7 (by omega) (by omega) dX1_fillCosts_59 ?_
      refine fm_ast7 rfl dX1_fillCosts_60 ?_
      refine fm_ald6 dX1_fillCosts_62 ?_
      refine fm_ild4 dX1_fillCosts_64 ?_
      refine fm_iconst dX1_fillCosts_66 ?_
      refine fm_ild2 dX1_fillCosts_67 ?_
      refine fm_ild5 dX1_fillCosts_68 ?_
      refine fm_isub dX1_fillCosts_70 ?_
      refine fm_imul dX1_fillCosts_71 ?_
      refine fm_iast dX1_fillCosts_72 (ia_ll (by omega)) (by omega) (by omega) ?_
      refine fm_ild4 dX1_fillCosts_73 ?_
      refine fm_iconst dX1_fillCosts_75 ?_
      refine fm_isub dX1_fillCosts_76 ?_
      refine fm_ist8 rfl dX1_fillCosts_77 ?_
      refine l_fl2 ha hb na nb ma mb N M hN hM (by omega) hK2 M ((M : Int) - 1) _ _ (by omega) (by omega) (hr.up (by omega)) (fun x y hx hy hxy => ?_)
      rw [Int.toNat_natCast]
      by_cases e : 63 + x = 63 + i.toNat
      · by_cases e2 : y = M
        · rw [e, e2, fm_up_eq, show x = i.toNat by omega, lct_m (by omega)]; omega
        · omega
      · rw [fm_up_ne e]; exact ht x y hx hy (by omega)
set_option maxRecDepth 20000 in
set_option maxHeartbeats 4000000 in
theorem k_X1_fillCosts {ω : fm_O} {σ : fm_Mem} {a b : Nat} {n m : Int} (ha : fm_ia kc a 40) (hb : fm_ia kc b 40) (na : a < 57 ∧ a ≠ 8) (nb : b < 57 ∧ b ≠ 8) (ma : ∀ i, i < 40 → 0 ≤ σ a i ∧ σ a i ≤ 63) (mb : ∀ i, i < 40 → 0 ≤ σ b i ∧ σ b i ≤ 63) (hn : 0 ≤ n ∧ n ≤ 40) (hm : 0 ≤ m ∧ m ≤ 40) : fm_Met kc ω yX1_fillCosts cX1_fillCosts 10 none (fm_rm 2) [fm_r ω 6, fm_r ω a, fm_I n, fm_r ω b, fm_I m] σ (fm_pN fun σ' => fr2 σ σ' ∧ ∀ x y : Nat, x ≤ n.toNat → y ≤ m.toNat → σ' (63 + x) y = lct (σ a) (σ b) n.toNat m.toNat x y) := by
  refine fm_start (by decide) rfl (Nat.le_of_ble_eq_true rfl) [some (fm_r ω 6), some (fm_r ω a), some (fm_I n), some (fm_r ω b), some (fm_I m), none, none, none, none, none] rfl (fun Γ => ?_)
  obtain ⟨N, rfl⟩ : ∃ N : Nat, n = N := ⟨n.toNat, by omega⟩
  obtain ⟨M, rfl⟩ : ∃ N : Nat, m = N := ⟨m.toNat, by omega⟩
  rw [Int.toNat_natCast, Int.toNat_natCast]
  refine fm_iconst dX1_fillCosts_0 ?_
  refine fm_ist5 rfl dX1_fillCosts_1 ?_
  refine l_fl1 ha hb na.1 nb.1 ma mb N M (by omega) (by omega) (fun τ o5 hr ht => ?_) (M + 1) 0 σ (by omega) (by omega) fr2.rfl (fun y hy => by omega)
  refine fm_ild2 dX1_fillCosts_32 ?_
  refine fm_iconst dX1_fillCosts_33 ?_
  refine fm_isub dX1_fillCosts_34 ?_
  refine fm_ist5 rfl dX1_fillCosts_35 ?_
  refine l_fl3 ha hb na.1 nb.1 ma mb N M (by omega) (by omega) (fun τ hr ht => ⟨rfl, hr, fun x y hx hy => ht x y hx hy (by omega)⟩) N ((N : Int) - 1) τ _ _ _ _ (by omega) (by omega) hr ht
set_option maxRecDepth 20000 in
set_option maxHeartbeats 4000000 in
theorem k_cP {ω : fm_O} {σ τ : fm_Mem} {a b : Nat} (ha : fm_ia kc a 40) (hb : fm_ia kc b 40) (na : a < 57 ∧ a ≠ 8) (nb : b < 57 ∧ b ≠ 8) (ma : ∀ i, i < 40 → 0 ≤ σ a i ∧ σ a i ≤ 63) (mb : ∀ i, i < 40 → 0 ≤ σ b i ∧ σ b i ≤ 63) (N M : Nat) (hN : N ≤ 40) (hM : M ≤ 40) (hr : fr3 σ τ) (ht : ∀ x y : Nat, x ≤ N → y ≤ M → τ (63 + x) y = lct (σ a) (σ b) N M x y) {i j : Nat} (hi : i < N) (hj : j < M) : fm_Met kc ω yX1_canPair cX1_canPair 5 (some .boolean) (fm_rm 2) [fm_r ω 6, fm_r ω a, fm_I (i : Int), fm_r ω b, fm_I (j : Int)] τ (fm_pI fun z σ' => ((lct (σ a) (σ b) N M i j = lct (σ a) (σ b) N M (i + 1) (j + 1) + pcost ((σ a) i) ((σ b) j)) ∧ z = 1 ∨ ¬ (lct (σ a) (σ b) N M i j = lct (σ a) (σ b) N M (i + 1) (j + 1) + pcost ((σ a) i) ((σ b) j)) ∧ z = 0) ∧ τ = σ') := by
  have e1 : τ (63 + i) j = lct (σ a) (σ b) N M i j := ht i j (by omega) (by omega)
  have e2 : τ (63 + (i + 1)) (j + 1) = lct (σ a) (σ b) N M (i + 1) (j + 1) := ht (i + 1) (j + 1) (by omega) (by omega)
  have e3 : τ a i = σ a i := hr a i (by omega) (by omega)
  have e4 : τ b j = σ b j := hr b j (by omega) (by omega)
  have b1 := lct_b (f := (σ a)) (g := (σ b)) (i := i) (j := j) hN hM
  have b2 := lct_b (f := (σ a)) (g := (σ b)) (i := i + 1) (j := j + 1) hN hM
  have m1 := ma i (by omega)
  have m2 := mb j (by omega)
  have h := k_X1_canPair (ω := ω) (σ := τ) ha hb (i := (i : Int)) (j := (j : Int)) (by omega) (by omega) (by rw [Int.toNat_natCast, e3]; exact m1) (by rw [Int.toNat_natCast, e4]; exact m2) (by rw [Int.toNat_natCast, Int.toNat_natCast, e1]; omega) (by rw [show ((i : Int) + 1).toNat = i + 1 by omega, show ((j : Int) + 1).toNat = j + 1 by omega, e2]; omega)
  rw [Int.toNat_natCast, Int.toNat_natCast, show ((i : Int) + 1).toNat = i + 1 by omega, show ((j : Int) + 1).toNat = j + 1 by omega, e1, e2, e3, e4, Int.add_comm (pcost _ _)] at h
  exact h
set_option maxRecDepth 20000 in
set_option maxHeartbeats 4000000 in
theorem k_cL {ω : fm_O} {σ τ : fm_Mem} {a b : Nat} (N M : Nat) (hN : N ≤ 40) (hM : M ≤ 40) (ht : ∀ x y : Nat, x ≤ N → y ≤ M → τ (63 + x) y = lct (σ a) (σ b) N M x y) {i j : Nat} (hi : i < N) (hj : j < M) : fm_Met kc ω yX1_canLeaveSecond cX1_canLeaveSecond 3 (some .boolean) (fm_rm 0) [fm_r ω 6, fm_I (i : Int), fm_I (j : Int)] τ (fm_pI fun z σ' => ((lct (σ a) (σ b) N M i j = lct (σ a) (σ b) N M i (j + 1) + 3) ∧ z = 1 ∨ ¬ (lct (σ a) (σ b) N M i j = lct (σ a) (σ b) N M i (j + 1) + 3) ∧ z = 0) ∧ τ = σ') := by
  have e1 : τ (63 + i) j = lct (σ a) (σ b) N M i j := ht i j (by omega) (by omega)
  have e2 : τ (63 + i) (j + 1) = lct (σ a) (σ b) N M i (j + 1) := ht i (j + 1) (by omega) (by omega)
  have b1 := lct_b (f := (σ a)) (g := (σ b)) (i := i) (j := j) hN hM
  have b2 := lct_b (f := (σ a)) (g := (σ b)) (i := i) (j := j + 1) hN hM
  have h := k_X1_canLeaveSecond (ω := ω) (σ := τ) (i := (i : Int)) (j := (j : Int)) (by omega) (by omega) (by rw [Int.toNat_natCast, Int.toNat_natCast, e1]; omega) (by rw [Int.toNat_natCast, show ((j : Int) + 1).toNat = j + 1 by omega, e2]; omega)
  rw [Int.toNat_natCast, Int.toNat_natCast, show ((j : Int) + 1).toNat = j + 1 by omega, e1, e2, Int.add_comm 3] at h
  exact h
set_option maxRecDepth 20000 in
set_option maxHeartbeats 4000000 in
theorem l_lineUp {ω : fm_O} {σ : fm_Mem} {Γ : fm_G} {a b : Nat} (ha : fm_ia kc a 40) (hb : fm_ia kc b 40) (na : a < 57 ∧ a ≠ 8) (nb : b < 57 ∧ b ≠ 8) (ma : ∀ i, i < 40 → 0 ≤ σ a i ∧ σ a i ≤ 63) (mb : ∀ i, i < 40 → 0 ≤ σ b i ∧ σ b i ≤ 63) (N M : Nat) (hN : N ≤ 40) (hM : M ≤ 40) : ∀ (d i j : Nat) (τ : fm_Mem), (N - i) + (M - j) ≤ d → i < N → j ≤ M → fr3 σ τ → (∀ x y : Nat, x ≤ N → y ≤ M → τ (63 + x) y = lct (σ a) (σ b) N M x y) → (∀ k, k < N → lpa (σ a) (σ b) N M i j (τ 8) k = lpt (σ a) (σ b) N M k) → fm_W kc ω Γ (cX1_lineUp, RX1, fm_rm 3, 7, none) (fm_pN fun σ' => fr3 σ σ' ∧ (∀ x y : Nat, x ≤ N → y ≤ M → σ' (63 + x) y = lct (σ a) (σ b) N M x y) ∧ ∀ k, k < N → σ' 8 k = lpt (σ a) (σ b) N M k) τ 21 [some (fm_r ω 6), some (fm_r ω a), some (fm_I (N : Int)), some (fm_r ω b), some (fm_I (M : Int)), some (fm_I (j : Int)), some (fm_I (i : Int))] [] := by
  intro d
  induction d with
  | zero =>
    intro i j τ hd hi
    omega
  | succ d ih =>
    intro i j τ hd hi hj hr ht hp
    have hr1 : ∀ v : Int, fr3 σ (fm_up τ 8 i v) := fun v k q h1 h2 => by rw [fm_up_ne h2]; exact hr k q h1 h2
    have ht1 : ∀ v : Int, ∀ x y : Nat, x ≤ N → y ≤ M → fm_up τ 8 i v (63 + x) y = lct (σ a) (σ b) N M x y := fun v x y hx hy => by rw [fm_up_ne (by omega)]; exact ht x y hx hy
    have J58 : ¬ (j < M ∧ ¬ (lct (σ a) (σ b) N M i j = lct (σ a) (σ b) N M (i + 1) (j + 1) + pcost ((σ a) i) ((σ b) j)) ∧ lct (σ a) (σ b) N M i j = lct (σ a) (σ b) N M i (j + 1) + 3) → fm_W kc ω Γ (cX1_lineUp, RX1, fm_rm 3, 7, none) (fm_pN fun σ' => fr3 σ σ' ∧ (∀ x y : Nat, x ≤ N → y ≤ M → σ' (63 + x) y = lct (σ a) (σ b) N M x y) ∧ ∀ k, k < N → σ' 8 k = lpt (σ a) (σ b) N M k) τ 58 [some (fm_r ω 6), some (fm_r ω a), some (fm_I (N : Int)), some (fm_r ω b), some (fm_I (M : Int)), some (fm_I (j : Int)), some (fm_I (i : Int))] [] := by
      intro hnl
      refine fm_ald0 dX1_lineUp_58 ?_
      refine gr_1_1 dX1_lineUp_59 fd_X1_16 ?_
      refine fm_ild6 dX1_lineUp_62 ?_
      refine fm_bipush (by decide) dX1_lineUp_64 ?_
      refine fm_iast dX1_lineUp_66 ia_8 (by omega) (by omega) ?_
      rw [Int.toNat_natCast]
      refine fm_ild5 dX1_lineUp_67 ?_
      refine fm_ild4 dX1_lineUp_69 ?_
      refine fm_icmp_ge (⟨by omega, by omega⟩) (⟨by omega, by omega⟩) 99 dX1_lineUp_71 (by decide) (fun h71 => ?_) (fun h71 => ?_)
      · refine fm_inc6 rfl dX1_lineUp_99 ?_
        refine fm_goto 15 dX1_lineUp_102 (by decide) ?_
        refine fm_ild6 dX1_lineUp_15 ?_
        refine fm_ild2 dX1_lineUp_17 ?_
        refine fm_icmp_ge (⟨by omega, by omega⟩) (⟨by omega, by omega⟩) 105 dX1_lineUp_18 (by decide) (fun h18 => ?_) (fun h18 => ?_)
        · first
            | (rw [fm_up2]
               refine fm_vretN dX1_lineUp_105 rfl ⟨hr1 _, ht1 _, fun k hk => ?_⟩
               have e := hp k hk
               rw [lpa_1 (by omega) (by omega) (by omega), lpa_end (by omega)] at e
               rw [lup_up]
               exact e)
            | (refine fm_vretN dX1_lineUp_105 rfl ⟨hr1 _, ht1 _, fun k hk => ?_⟩
               have e := hp k hk
               rw [lpa_3 (by omega) (by omega) (by omega), lpa_end (by omega)] at e
               rw [lup_up]
               exact e)
        · first
            | (rw [show (i : Int) + 1 = ((i + 1 : Nat) : Int) by omega, show (j : Int) + 1 = ((j + 1 : Nat) : Int) by omega, fm_up2]
               refine ih (i + 1) (j + 1) _ (by omega) (by omega) (by omega) (hr1 _) (ht1 _) (fun k hk => ?_)
               have e := hp k hk
               rw [lpa_1 (by omega) (by omega) (by omega)] at e
               rw [lup_up]
               exact e)
            | (rw [show (i : Int) + 1 = ((i + 1 : Nat) : Int) by omega]
               refine ih (i + 1) j _ (by omega) (by omega) (by omega) (hr1 _) (ht1 _) (fun k hk => ?_)
               have e := hp k hk
               rw [lpa_3 (by omega) (by omega) (by omega)] at e
               rw [lup_up]
               exact e)
      · refine fm_ald0 dX1_lineUp_74 ?_
        refine fm_ald1 dX1_lineUp_75 ?_
        refine fm_ild6 dX1_lineUp_76 ?_
        refine fm_ald3 dX1_lineUp_78 ?_
        refine fm_ild5 dX1_lineUp_79 ?_
        refine fm_cvI dX1_lineUp_81 cl_X1_24 (k_cP ha hb na nb ma mb N M hN hM (hr1 _) (ht1 _) (by omega) (by omega)) ob_6 rfl rfl (by decide) rfl rfl (Nat.le_of_ble_eq_true rfl) (fun z81 s81 q81 => ?_)
        obtain ⟨q81, rfl⟩ := q81
        refine fm_if_eq (⟨by omega, by omega⟩) 99 dX1_lineUp_84 (by decide) (fun h84 => ?_) (fun h84 => ?_)
        · refine fm_inc6 rfl dX1_lineUp_99 ?_
          refine fm_goto 15 dX1_lineUp_102 (by decide) ?_
          refine fm_ild6 dX1_lineUp_15 ?_
          refine fm_ild2 dX1_lineUp_17 ?_
          refine fm_icmp_ge (⟨by omega, by omega⟩) (⟨by omega, by omega⟩) 105 dX1_lineUp_18 (by decide) (fun h18 => ?_) (fun h18 => ?_)
          · first
              | (rw [fm_up2]
                 refine fm_vretN dX1_lineUp_105 rfl ⟨hr1 _, ht1 _, fun k hk => ?_⟩
                 have e := hp k hk
                 rw [lpa_1 (by omega) (by omega) (by omega), lpa_end (by omega)] at e
                 rw [lup_up]
                 exact e)
              | (refine fm_vretN dX1_lineUp_105 rfl ⟨hr1 _, ht1 _, fun k hk => ?_⟩
                 have e := hp k hk
                 rw [lpa_3 (by omega) (by omega) (by omega), lpa_end (by omega)] at e
                 rw [lup_up]
                 exact e)
          · first
              | (rw [show (i : Int) + 1 = ((i + 1 : Nat) : Int) by omega, show (j : Int) + 1 = ((j + 1 : Nat) : Int) by omega, fm_up2]
                 refine ih (i + 1) (j + 1) _ (by omega) (by omega) (by omega) (hr1 _) (ht1 _) (fun k hk => ?_)
                 have e := hp k hk
                 rw [lpa_1 (by omega) (by omega) (by omega)] at e
                 rw [lup_up]
                 exact e)
              | (rw [show (i : Int) + 1 = ((i + 1 : Nat) : Int) by omega]
                 refine ih (i + 1) j _ (by omega) (by omega) (by omega) (hr1 _) (ht1 _) (fun k hk => ?_)
                 have e := hp k hk
                 rw [lpa_3 (by omega) (by omega) (by omega)] at e
                 rw [lup_up]
                 exact e)
        · refine fm_ald0 dX1_lineUp_87 ?_
          refine gr_1_1 dX1_lineUp_88 fd_X1_16 ?_
          refine fm_ild6 dX1_lineUp_91 ?_
          refine fm_ild5 dX1_lineUp_93 ?_
          refine fm_iast dX1_lineUp_95 ia_8 (by omega) (by omega) ?_
          rw [Int.toNat_natCast]
          refine fm_inc5 rfl dX1_lineUp_96 ?_
          refine fm_inc6 rfl dX1_lineUp_99 ?_
          refine fm_goto 15 dX1_lineUp_102 (by decide) ?_
          refine fm_ild6 dX1_lineUp_15 ?_
          refine fm_ild2 dX1_lineUp_17 ?_
          refine fm_icmp_ge (⟨by omega, by omega⟩) (⟨by omega, by omega⟩) 105 dX1_lineUp_18 (by decide) (fun h18 => ?_) (fun h18 => ?_)
          · first
              | (rw [fm_up2]
                 refine fm_vretN dX1_lineUp_105 rfl ⟨hr1 _, ht1 _, fun k hk => ?_⟩
                 have e := hp k hk
                 rw [lpa_1 (by omega) (by omega) (by omega), lpa_end (by omega)] at e
                 rw [lup_up]
                 exact e)
              | (refine fm_vretN dX1_lineUp_105 rfl ⟨hr1 _, ht1 _, fun k hk => ?_⟩
                 have e := hp k hk
                 rw [lpa_3 (by omega) (by omega) (by omega), lpa_end (by omega)] at e
                 rw [lup_up]
                 exact e)
          · first
              | (rw [show (i : Int) + 1 = ((i + 1 : Nat) : Int) by omega, show (j : Int) + 1 = ((j + 1 : Nat) : Int) by omega, fm_up2]
                 refine ih (i + 1) (j + 1) _ (by omega) (by omega) (by omega) (hr1 _) (ht1 _) (fun k hk => ?_)
                 have e := hp k hk
                 rw [lpa_1 (by omega) (by omega) (by omega)] at e
                 rw [lup_up]
                 exact e)
              | (rw [show (i : Int) + 1 = ((i + 1 : Nat) : Int) by omega]
                 refine ih (i + 1) j _ (by omega) (by omega) (by omega) (hr1 _) (ht1 _) (fun k hk => ?_)
                 have e := hp k hk
                 rw [lpa_3 (by omega) (by omega) (by omega)] at e
                 rw [lup_up]
                 exact e)
    refine fm_ild5 dX1_lineUp_21 ?_
    refine fm_ild4 dX1_lineUp_23 ?_
    refine fm_icmp_ge (⟨by omega, by omega⟩) (⟨by omega, by omega⟩) 58 dX1_lineUp_25 (by decide) (fun h25 => ?_) (fun h25 => ?_)
    · exact J58 (by omega)
    · refine fm_ald0 dX1_lineUp_28 ?_
      refine fm_ald1 dX1_lineUp_29 ?_
      refine fm_ild6 dX1_lineUp_30 ?_
      refine fm_ald3 dX1_lineUp_32 ?_
      refine fm_ild5 dX1_lineUp_33 ?_
      refine fm_cvI dX1_lineUp_35 cl_X1_24 (k_cP ha hb na nb ma mb N M hN hM hr ht (by omega) (by omega)) ob_6 rfl rfl (by decide) rfl rfl (Nat.le_of_ble_eq_true rfl) (fun z35 s35 q35 => ?_)
      obtain ⟨q35, rfl⟩ := q35
      refine fm_if_ne (⟨by omega, by omega⟩) 58 dX1_lineUp_38 (by decide) (fun h38 => ?_) (fun h38 => ?_)
      · exact J58 (by omega)
      · refine fm_ald0 dX1_lineUp_41 ?_
        refine fm_ild6 dX1_lineUp_42 ?_
        refine fm_ild5 dX1_lineUp_44 ?_
        refine fm_cvI dX1_lineUp_46 cl_X1_28 (k_cL N M hN hM ht (by omega) (by omega)) ob_6 rfl rfl (by decide) rfl rfl (Nat.le_of_ble_eq_true rfl) (fun z46 s46 q46 => ?_)
        obtain ⟨q46, rfl⟩ := q46
        refine fm_if_eq (⟨by omega, by omega⟩) 58 dX1_lineUp_49 (by decide) (fun h49 => ?_) (fun h49 => ?_)
        · exact J58 (by omega)
        · refine fm_inc5 rfl dX1_lineUp_52 ?_
          refine fm_goto 21 dX1_lineUp_55 (by decide) ?_
          rw [show (j : Int) + 1 = ((j + 1 : Nat) : Int) by omega]
          refine ih i (j + 1) τ (by omega) (by omega) (by omega) hr ht (fun k hk => ?_)
          have e := hp k hk
          rw [lpa_2 (by omega) (by omega) (by omega) (by omega)] at e
          exact e
set_option maxRecDepth 20000 in
set_option maxHeartbeats 4000000 in
theorem k_X1_lineUp {ω : fm_O} {σ : fm_Mem} {a b : Nat} {n m : Int} (ha : fm_ia kc a 40) (hb : fm_ia kc b 40) (na : a < 57 ∧ a ≠ 8) (nb : b < 57 ∧ b ≠ 8) (ma : ∀ i, i < 40 → 0 ≤ σ a i ∧ σ a i ≤ 63) (mb : ∀ i, i < 40 → 0 ≤ σ b i ∧ σ b i ≤ 63) (hn : 0 ≤ n ∧ n ≤ 40) (hm : 0 ≤ m ∧ m ≤ 40) : fm_Met kc ω yX1_lineUp cX1_lineUp 7 none (fm_rm 3) [fm_r ω 6, fm_r ω a, fm_I n, fm_r ω b, fm_I m] σ (fm_pN fun σ' => fr3 σ σ' ∧ (∀ x y : Nat, x ≤ n.toNat → y ≤ m.toNat → σ' (63 + x) y = lct (σ a) (σ b) n.toNat m.toNat x y) ∧ ∀ k, k < n.toNat → σ' 8 k = lpt (σ a) (σ b) n.toNat m.toNat k) := by
  refine fm_start (by decide) rfl (Nat.le_of_ble_eq_true rfl) [some (fm_r ω 6), some (fm_r ω a), some (fm_I n), some (fm_r ω b), some (fm_I m), none, none] rfl (fun Γ => ?_)
  obtain ⟨N, rfl⟩ : ∃ N : Nat, n = N := ⟨n.toNat, by omega⟩
  obtain ⟨M, rfl⟩ : ∃ N : Nat, m = N := ⟨m.toNat, by omega⟩
  rw [Int.toNat_natCast, Int.toNat_natCast]
  refine fm_ald0 dX1_lineUp_0 ?_
  refine fm_ald1 dX1_lineUp_1 ?_
  refine fm_ild2 dX1_lineUp_2 ?_
  refine fm_ald3 dX1_lineUp_3 ?_
  refine fm_ild4 dX1_lineUp_4 ?_
  refine fm_cvN dX1_lineUp_6 cl_X1_20 (k_X1_fillCosts ha hb na nb ma mb hn hm) ob_6 rfl rfl (by decide) rfl rfl (Nat.le_of_ble_eq_true rfl) (fun s6 q6 => ?_)
  rw [Int.toNat_natCast, Int.toNat_natCast] at q6
  refine fm_iconst dX1_lineUp_9 ?_
  refine fm_ist5 rfl dX1_lineUp_10 ?_
  refine fm_iconst dX1_lineUp_12 ?_
  refine fm_ist6 rfl dX1_lineUp_13 ?_
  refine fm_ild6 dX1_lineUp_15 ?_
  refine fm_ild2 dX1_lineUp_17 ?_
  refine fm_icmp_ge (⟨by omega, by omega⟩) (⟨by omega, by omega⟩) 105 dX1_lineUp_18 (by decide) (fun h18 => ?_) (fun h18 => ?_)
  · refine fm_vretN dX1_lineUp_105 rfl ⟨fun k q h1 h2 => q6.1 k q h1, q6.2, fun k hk => by omega⟩
  · exact l_lineUp ha hb na nb ma mb N M (by omega) (by omega) (N + M) 0 0 s6 (by omega) (by omega) (by omega) (fun k q h1 h2 => q6.1 k q h1) q6.2 (fun k hk => lpt_of hk)
