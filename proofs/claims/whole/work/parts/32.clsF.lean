theorem pcn_all : ∀ N, N < 7 → pcn (2 ^ N - 1) N = N := by decide +kernel
theorem pcn_zero : ∀ N, N < 7 → pcn 0 N = 0 := by decide +kernel
theorem dg_cong {f g : Nat → Int} : ∀ k, (∀ j, j < k → f j = g j) → dg f k = dg g k
  | 0, _ => rfl
  | k + 1, h => by rw [dg, dg, dg_cong k (fun j hj => h j (by omega)), h k (by omega)]
def sp_order (μ : fm_Mem) (n i : Int) : Int := if ¬ (inR n 2 6 ∧ -2 ≤ i) then -1 else if i = -1 then (dpt μ n.toNat n.toNat 0).1 else if i = -2 then (dpt μ n.toNat n.toNat 0).2.1 else if i < n then (dpt μ n.toNat n.toNat 0).2.2 / 8 ^ i.toNat % 8 else -4
set_option maxRecDepth 20000 in
set_option maxHeartbeats 4000000 in
theorem l_ln {ω : fm_O} {σ : fm_Mem} {Γ : fm_G} {μ : fm_Mem} (hi : fj μ) (h : rel μ σ) {N U r : Nat} (hN : N < 7) (hU : U < 2 ^ N) (hr : r + 1 + pcn U N = N) (ht : tbo μ N σ U) {s0 : Nat} (h1 : s0 < N) (h2 : bt U s0 = 0) (h3 : (dpt μ N (r + 1) U).1 = dsm μ U s0 N + (dpt μ N r (U + 2 ^ s0)).1) (h4 : ∀ t, t < s0 → bt U t = 0 → dsm μ U t N + (dpt μ N r (U + 2 ^ t)).1 ≠ (dpt μ N (r + 1) U).1) : ∀ (d s : Nat), s + d = s0 → fm_W kc ω Γ (cX0_lowestNext, RX0, fm_rm 2, 4, (some .int)) (fm_pI fun z σ' => z = (s0 : Int) ∧ σ = σ') σ 2 [some (fm_r ω 18), some (fm_I (N : Int)), some (fm_I (U : Int)), some (fm_I (s : Int))] [] := by
  have hf := hi.fi
  have h64 := pow_64 N hN
  have e20 : σ 20 U = (dpt μ N (r + 1) U).1 := by rw [(ht U (Nat.le_refl _) hU).1, show N - pcn U N = r + 1 by omega]
  have b20 := dpt_b hf hN (r + 1) U hU (by omega)
  have cost : ∀ s, s < N → bt U s = 0 → σ 20 (U + 2 ^ s) = (dpt μ N r (U + 2 ^ s)).1 ∧ 0 ≤ (dpt μ N r (U + 2 ^ s)).1 ∧ (dpt μ N r (U + 2 ^ s)).1 ≤ 72000 ∧ 0 ≤ dsm μ U s N ∧ dsm μ U s N ≤ 12000 := by
    intro s q1 q2
    have hlt := lt_add N hN U hU s q1 q2
    have hpc := pcn_add U (by omega) N hN s q1 q2
    have hd := dsm_b hf U s N
    have hb := dpt_b hf hN r (U + 2 ^ s) hlt (by omega)
    refine ⟨?_, by omega, by omega, by omega, by omega⟩
    rw [(ht (U + 2 ^ s) (Nat.le_add_right _ _) hlt).1, show N - pcn (U + 2 ^ s) N = r by omega]
  intro d
  induction d with
  | zero =>
    intro s hs
    have es : s = s0 := by omega
    subst es
    obtain ⟨c1, c2, c3, c4, c5⟩ := cost s h1 h2
    refine fm_ild3 dX0_lowestNext_2 ?_
    refine fm_ild1 dX0_lowestNext_3 ?_
    refine fm_icmp_ge (⟨by omega, by omega⟩) (⟨by omega, by omega⟩) 39 dX0_lowestNext_4 (by decide) (fun h4 => ?_) (fun h4 => ?_)
    · exfalso; omega
    · refine fm_ild2 dX0_lowestNext_7 ?_
      refine fm_ild3 dX0_lowestNext_8 ?_
      refine fm_csI dX0_lowestNext_9 cl_X0_45 (k_X0_isIn (by omega) (by omega)) rfl rfl (by decide) rfl rfl (Nat.le_of_ble_eq_true rfl) (fun z9 s9 q9 => ?_)
      obtain ⟨q9, rfl⟩ := q9
      refine fm_if_ne (⟨by omega, by omega⟩) 33 dX0_lowestNext_12 (by decide) (fun h12 => ?_) (fun h12 => ?_)
      · exfalso; omega
      · refine fm_ald0 dX0_lowestNext_15 ?_
        refine fm_ild1 dX0_lowestNext_16 ?_
        refine fm_ild2 dX0_lowestNext_17 ?_
        refine fm_ild3 dX0_lowestNext_18 ?_
        refine fm_cvI dX0_lowestNext_19 cl_X0_49 (k_X0_quarrelWith hi h hN hU h1 h2) ob_18 rfl rfl (by decide) rfl rfl (Nat.le_of_ble_eq_true rfl) (fun z19 s19 q19 => ?_)
        obtain ⟨rfl, rfl⟩ := q19
        rw [c1]
        refine fm_ald0 dX0_lowestNext_22 ?_
        refine gr_0_1 dX0_lowestNext_23 fd_X0_16 ?_
        refine fm_ild2 dX0_lowestNext_26 ?_
        refine fm_iald dX0_lowestNext_27 ia_20 (by omega) (by omega) ?_
        rw [Int.toNat_natCast, e20]
        refine fm_icmp_ne (⟨by omega, by omega⟩) (⟨by omega, by omega⟩) 33 dX0_lowestNext_28 (by decide) (fun h28 => ?_) (fun h28 => ?_)
        · exfalso; omega
        · refine fm_ild3 dX0_lowestNext_31 ?_
          exact fm_iretI dX0_lowestNext_32 rfl ⟨rfl, rfl⟩
  | succ d ih =>
    intro s hs
    by_cases hbs : bt U s = 0
    · obtain ⟨c1, c2, c3, c4, c5⟩ := cost s (by omega) hbs
      have ne := h4 s (by omega) hbs
      refine fm_ild3 dX0_lowestNext_2 ?_
      refine fm_ild1 dX0_lowestNext_3 ?_
      refine fm_icmp_ge (⟨by omega, by omega⟩) (⟨by omega, by omega⟩) 39 dX0_lowestNext_4 (by decide) (fun h4 => ?_) (fun h4 => ?_)
      · exfalso; omega
      · refine fm_ild2 dX0_lowestNext_7 ?_
        refine fm_ild3 dX0_lowestNext_8 ?_
        refine fm_csI dX0_lowestNext_9 cl_X0_45 (k_X0_isIn (by omega) (by omega)) rfl rfl (by decide) rfl rfl (Nat.le_of_ble_eq_true rfl) (fun z9 s9 q9 => ?_)
        obtain ⟨q9, rfl⟩ := q9
        refine fm_if_ne (⟨by omega, by omega⟩) 33 dX0_lowestNext_12 (by decide) (fun h12 => ?_) (fun h12 => ?_)
        · exfalso; omega
        · refine fm_ald0 dX0_lowestNext_15 ?_
          refine fm_ild1 dX0_lowestNext_16 ?_
          refine fm_ild2 dX0_lowestNext_17 ?_
          refine fm_ild3 dX0_lowestNext_18 ?_
          refine fm_cvI dX0_lowestNext_19 cl_X0_49 (k_X0_quarrelWith hi h hN hU (by omega) hbs) ob_18 rfl rfl (by decide) rfl rfl (Nat.le_of_ble_eq_true rfl) (fun z19 s19 q19 => ?_)
          obtain ⟨rfl, rfl⟩ := q19
          rw [c1]
          refine fm_ald0 dX0_lowestNext_22 ?_
          refine gr_0_1 dX0_lowestNext_23 fd_X0_16 ?_
          refine fm_ild2 dX0_lowestNext_26 ?_
          refine fm_iald dX0_lowestNext_27 ia_20 (by omega) (by omega) ?_
          rw [Int.toNat_natCast, e20]
          refine fm_icmp_ne (⟨by omega, by omega⟩) (⟨by omega, by omega⟩) 33 dX0_lowestNext_28 (by decide) (fun h28 => ?_) (fun h28 => ?_)
          · refine fm_inc3 rfl dX0_lowestNext_33 ?_
            refine fm_goto 2 dX0_lowestNext_36 (by decide) ?_
            rw [show (s : Int) + 1 = ((s + 1 : Nat) : Int) by omega]
            exact ih (s + 1) (by omega)
          · exfalso; omega
    · have hbs1 : bt U s = 1 := by have := bt_c U s; omega
      refine fm_ild3 dX0_lowestNext_2 ?_
      refine fm_ild1 dX0_lowestNext_3 ?_
      refine fm_icmp_ge (⟨by omega, by omega⟩) (⟨by omega, by omega⟩) 39 dX0_lowestNext_4 (by decide) (fun h4 => ?_) (fun h4 => ?_)
      · exfalso; omega
      · refine fm_ild2 dX0_lowestNext_7 ?_
        refine fm_ild3 dX0_lowestNext_8 ?_
        refine fm_csI dX0_lowestNext_9 cl_X0_45 (k_X0_isIn (by omega) (by omega)) rfl rfl (by decide) rfl rfl (Nat.le_of_ble_eq_true rfl) (fun z9 s9 q9 => ?_)
        obtain ⟨q9, rfl⟩ := q9
        refine fm_if_ne (⟨by omega, by omega⟩) 33 dX0_lowestNext_12 (by decide) (fun h12 => ?_) (fun h12 => ?_)
        · refine fm_inc3 rfl dX0_lowestNext_33 ?_
          refine fm_goto 2 dX0_lowestNext_36 (by decide) ?_
          rw [show (s : Int) + 1 = ((s + 1 : Nat) : Int) by omega]
          exact ih (s + 1) (by omega)
        · exfalso; omega
set_option maxRecDepth 20000 in
set_option maxHeartbeats 4000000 in
theorem k_X0_lowestNext {ω : fm_O} {σ : fm_Mem} {μ : fm_Mem} (hi : fj μ) (h : rel μ σ) {N U r : Nat} (hN : N < 7) (hU : U < 2 ^ N) (hr : r + 1 + pcn U N = N) (ht : tbo μ N σ U) {s0 : Nat} (h1 : s0 < N) (h2 : bt U s0 = 0) (h3 : (dpt μ N (r + 1) U).1 = dsm μ U s0 N + (dpt μ N r (U + 2 ^ s0)).1) (h4 : ∀ t, t < s0 → bt U t = 0 → dsm μ U t N + (dpt μ N r (U + 2 ^ t)).1 ≠ (dpt μ N (r + 1) U).1) : fm_Met kc ω yX0_lowestNext cX0_lowestNext 4 (some .int) (fm_rm 2) [fm_r ω 18, fm_I (N : Int), fm_I (U : Int)] σ (fm_pI fun z σ' => z = (s0 : Int) ∧ σ = σ') := by
  refine fm_start (by decide) rfl (Nat.le_of_ble_eq_true rfl) [some (fm_r ω 18), some (fm_I (N : Int)), some (fm_I (U : Int)), none] rfl (fun Γ => ?_)
  refine fm_iconst dX0_lowestNext_0 ?_
  refine fm_ist3 rfl dX0_lowestNext_1 ?_
  exact l_ln hi h hN hU hr ht h1 h2 h3 h4 s0 0 (by omega)
set_option maxRecDepth 20000 in
set_option maxHeartbeats 4000000 in
theorem l_foA {ω : fm_O} {σ : fm_Mem} {Γ : fm_G} {P : Option Value → fm_Mem → Prop} {μ : fm_Mem} (hi : fj μ) (h : rel μ σ) {N : Nat} (hN : N < 7) (hK : ∀ (τ : fm_Mem) (o3 : Option Value), frA σ τ → tbo μ N τ 0 → fm_W kc ω Γ (cX0_findOrder, RX0, fm_rm 3, 5, none) P τ 40 [some (fm_r ω 18), some (fm_I (N : Int)), some (fm_I (((2 ^ N : Nat) : Int) - 1)), o3, none] []) : ∀ (d : Nat) (z : Int) (τ : fm_Mem), z + 1 = d → z < ((2 ^ N : Nat) : Int) - 1 → frA σ τ → tbo μ N τ d → fm_W kc ω Γ (cX0_findOrder, RX0, fm_rm 3, 5, none) P τ 24 [some (fm_r ω 18), some (fm_I (N : Int)), some (fm_I (((2 ^ N : Nat) : Int) - 1)), some (fm_I z), none] [] := by
  have h64 := pow_64 N hN
  intro d
  induction d with
  | zero =>
    intro z τ hd hz hr ht
    refine fm_ild3 dX0_findOrder_24 ?_
    refine fm_if_lt (⟨by omega, by omega⟩) 40 dX0_findOrder_25 (by decide) (fun h25 => ?_) (fun h25 => ?_)
    · exact hK τ _ hr ht
    · exfalso; omega
  | succ d ih =>
    intro z τ hd hz hr ht
    have ez : z = (d : Int) := by omega
    subst ez
    have hlt : d < 2 ^ N - 1 := by omega
    have hp := pcn_lt N hN d hlt
    obtain ⟨r, hr2⟩ : ∃ r, r + 1 + pcn d N = N := ⟨N - pcn d N - 1, by omega⟩
    refine fm_ild3 dX0_findOrder_24 ?_
    refine fm_if_lt (⟨by omega, by omega⟩) 40 dX0_findOrder_25 (by decide) (fun h25 => ?_) (fun h25 => ?_)
    · exfalso; omega
    · refine fm_ald0 dX0_findOrder_28 ?_
      refine fm_ild1 dX0_findOrder_29 ?_
      refine fm_ild3 dX0_findOrder_30 ?_
      refine fm_cvN dX0_findOrder_31 cl_X0_36 (k_X0_weighSet hi (h.frm hr.frm) hN (by omega) hr2 ht) ob_18 rfl rfl (by decide) rfl rfl (Nat.le_of_ble_eq_true rfl) (fun s31 q31 => ?_)
      refine fm_inc3 rfl dX0_findOrder_34 ?_
      refine fm_goto 24 dX0_findOrder_37 (by decide) ?_
      refine ih ((d : Int) + -1) s31 (by omega) (by omega) (fun k x hk => by rw [q31.1 k x (by omega)]; exact hr k x hk) (fun V h1 h2 => ?_)
      by_cases e : V = d
      · subst e
        rw [show N - pcn V N = r + 1 by omega]
        exact q31.2
      · rw [q31.1 20 V (by omega), q31.1 21 V (by omega)]
        exact ht V (by omega) h2
set_option maxRecDepth 20000 in
set_option maxHeartbeats 4000000 in
theorem l_foB {ω : fm_O} {σ σ1 : fm_Mem} {Γ : fm_G} {μ : fm_Mem} (hi : fj μ) (h : rel μ σ) {N : Nat} (hN : N < 7) (h1 : frA σ σ1) (ht1 : tbo μ N σ1 0) : ∀ (d k U : Nat) (τ : fm_Mem), k + d = N → U < 2 ^ N → pcn U N = k → (∀ k x, k ≠ 22 → τ k x = σ1 k x) → (∀ j, j < k → 0 ≤ τ 22 j ∧ τ 22 j < 8) → dg (τ 22) k + (dpt μ N d U).2.2 = (dpt μ N N 0).2.2 → fm_W kc ω Γ (cX0_findOrder, RX0, fm_rm 3, 5, none) (fm_pN fun σ' => frA σ σ' ∧ σ' 20 0 = (dpt μ N N 0).1 ∧ σ' 21 0 = (dpt μ N N 0).2.1 ∧ (∀ j, j < N → 0 ≤ σ' 22 j ∧ σ' 22 j < 8) ∧ dg (σ' 22) N = (dpt μ N N 0).2.2) τ 45 [some (fm_r ω 18), some (fm_I (N : Int)), some (fm_I (((2 ^ N : Nat) : Int) - 1)), some (fm_I (U : Int)), some (fm_I (k : Int))] [] := by
  have hf := hi.fi
  have h64 := pow_64 N hN
  have z0 := ht1 0 (Nat.le_refl _) (Nat.two_pow_pos N)
  rw [pcn_zero N hN, Nat.sub_zero] at z0
  intro d
  induction d with
  | zero =>
    intro k U τ hk hU hp hr hd hg
    refine fm_ild4 dX0_findOrder_45 ?_
    refine fm_ild1 dX0_findOrder_47 ?_
    refine fm_icmp_ge (⟨by omega, by omega⟩) (⟨by omega, by omega⟩) 82 dX0_findOrder_48 (by decide) (fun h48 => ?_) (fun h48 => ?_)
    · refine fm_vretN dX0_findOrder_82 rfl ⟨fun k x hk => by rw [hr k x (by omega)]; exact h1 k x hk, by rw [hr 20 0 (by omega)]; exact z0.1, by rw [hr 21 0 (by omega)]; exact z0.2, fun j hj => hd j (by omega), ?_⟩
      rw [dpt] at hg
      rw [← hg, show N = k by omega]
      simp
    · exfalso; omega
  | succ d ih =>
    intro k U τ hk hU hp hr hd hg
    have hrf : frA σ τ := fun k x hk => by rw [hr k x (by omega)]; exact h1 k x hk
    have htt : tbo μ N τ U := fun V q1 q2 => by rw [hr 20 V (by omega), hr 21 V (by omega)]; exact ht1 V (by omega) q2
    obtain ⟨s0, a1, a2, a3, a4, a5⟩ := dpt_arg hf hN (r := d) hU (by omega)
    have hlt := lt_add N hN U hU s0 a1 a2
    have hpc := pcn_add U (by omega) N hN s0 a1 a2
    refine fm_ild4 dX0_findOrder_45 ?_
    refine fm_ild1 dX0_findOrder_47 ?_
    refine fm_icmp_ge (⟨by omega, by omega⟩) (⟨by omega, by omega⟩) 82 dX0_findOrder_48 (by decide) (fun h48 => ?_) (fun h48 => ?_)
    · exfalso; omega
    · refine fm_ald0 dX0_findOrder_51 ?_
      refine gr_0_3 dX0_findOrder_52 fd_X0_23 ?_
      refine fm_ild4 dX0_findOrder_55 ?_
      refine fm_ald0 dX0_findOrder_57 ?_
      refine fm_ild1 dX0_findOrder_58 ?_
      refine fm_ild3 dX0_findOrder_59 ?_
      refine fm_cvI dX0_findOrder_60 cl_X0_40 (k_X0_lowestNext hi (h.frm hrf.frm) hN hU (by omega) htt a1 a2 a3 a5) ob_18 rfl rfl (by decide) rfl rfl (Nat.le_of_ble_eq_true rfl) (fun z60 s60 q60 => ?_)
      obtain ⟨rfl, rfl⟩ := q60
      refine fm_iast dX0_findOrder_63 ia_22 (by omega) (by omega) ?_
      rw [Int.toNat_natCast]
      refine fm_ild3 dX0_findOrder_64 ?_
      refine fm_iconst dX0_findOrder_65 ?_
      refine fm_ald0 dX0_findOrder_66 ?_
      refine gr_0_3 dX0_findOrder_67 fd_X0_23 ?_
      refine fm_ild4 dX0_findOrder_70 ?_
      refine fm_iald dX0_findOrder_72 ia_22 (by omega) (by omega) ?_
      rw [Int.toNat_natCast, fm_up_eq]
      refine fm_ishl ((2 ^ s0 : Nat) : Int) (bi_shl (by omega)) dX0_findOrder_73 ?_
      refine fm_ior ((U + 2 ^ s0 : Nat) : Int) (bi_or (by omega) (by omega) a2) dX0_findOrder_74 ?_
      refine fm_ist3 rfl dX0_findOrder_75 ?_
      refine fm_inc4 rfl dX0_findOrder_76 ?_
      refine fm_goto 45 dX0_findOrder_79 (by decide) ?_
      rw [show (k : Int) + 1 = ((k + 1 : Nat) : Int) by omega]
      refine ih (k + 1) (U + 2 ^ s0) _ (by omega) hlt (by omega) (fun k2 x hk2 => by rw [fm_up_ne hk2]; exact hr k2 x hk2) (fun j hj => ?_) ?_
      · by_cases e : j = k
        · rw [e, fm_up_eq]; omega
        · rw [fm_up_nj e]; exact hd j (by omega)
      · rw [dg, dg_cong (g := τ 22) k (fun j hj => fm_up_nj (by omega)), fm_up_eq, ← hg, a4, show N - (d + 1) = k by omega]
        omega
set_option maxRecDepth 20000 in
set_option maxHeartbeats 4000000 in
theorem k_X0_findOrder {ω : fm_O} {σ : fm_Mem} {μ : fm_Mem} (hi : fj μ) (h : rel μ σ) {N : Nat} (hN : N < 7) (hN2 : 2 ≤ N) : fm_Met kc ω yX0_findOrder cX0_findOrder 5 none (fm_rm 3) [fm_r ω 18, fm_I (N : Int)] σ (fm_pN fun σ' => frA σ σ' ∧ σ' 20 0 = (dpt μ N N 0).1 ∧ σ' 21 0 = (dpt μ N N 0).2.1 ∧ (∀ j, j < N → 0 ≤ σ' 22 j ∧ σ' 22 j < 8) ∧ dg (σ' 22) N = (dpt μ N N 0).2.2) := by
  refine fm_start (by decide) rfl (Nat.le_of_ble_eq_true rfl) [some (fm_r ω 18), some (fm_I (N : Int)), none, none, none] rfl (fun Γ => ?_)
  have h64 := pow_64 N hN
  have h4 : 4 ≤ 2 ^ N := by
    have := Nat.pow_le_pow_right (show 0 < 2 by omega) hN2
    omega
  refine fm_iconst dX0_findOrder_0 ?_
  refine fm_ild1 dX0_findOrder_1 ?_
  refine fm_ishl ((2 ^ N : Nat) : Int) (bi_shl (by omega)) dX0_findOrder_2 ?_
  refine fm_iconst dX0_findOrder_3 ?_
  refine fm_isub dX0_findOrder_4 ?_
  refine fm_ist2 rfl dX0_findOrder_5 ?_
  refine fm_ald0 dX0_findOrder_6 ?_
  refine gr_0_1 dX0_findOrder_7 fd_X0_16 ?_
  refine fm_ild2 dX0_findOrder_10 ?_
  refine fm_iconst dX0_findOrder_11 ?_
  refine fm_iast dX0_findOrder_12 ia_20 (by omega) (by omega) ?_
  refine fm_ald0 dX0_findOrder_13 ?_
  refine gr_0_2 dX0_findOrder_14 fd_X0_20 ?_
  refine fm_ild2 dX0_findOrder_17 ?_
  refine fm_iconst dX0_findOrder_18 ?_
  refine fm_iast dX0_findOrder_19 ia_21 (by omega) (by omega) ?_
  refine fm_ild2 dX0_findOrder_20 ?_
  refine fm_iconst dX0_findOrder_21 ?_
  refine fm_isub dX0_findOrder_22 ?_
  refine fm_ist3 rfl dX0_findOrder_23 ?_
  have ei : (((2 ^ N : Nat) : Int) - 1).toNat = 2 ^ N - 1 := by omega
  rw [ei]
  refine l_foA hi h hN (fun τ o3 hr ht => ?_) (2 ^ N - 1) _ _ (by omega) (by omega) ((frA.rfl.up (by omega)).up (by omega)) (fun V h1 h2 => ?_)
  · refine fm_iconst dX0_findOrder_40 ?_
    refine fm_ist3 rfl dX0_findOrder_41 ?_
    refine fm_iconst dX0_findOrder_42 ?_
    refine fm_ist4 rfl dX0_findOrder_43 ?_
    refine l_foB hi h hN hr ht N 0 0 τ (by omega) (Nat.two_pow_pos N) (pcn_zero N hN) (fun _ _ _ => rfl) (fun j hj => by omega) ?_
    rw [dg]
    omega
  · have eV : V = 2 ^ N - 1 := by omega
    rw [eV, pcn_all N hN, Nat.sub_self, dpt]
    refine ⟨?_, ?_⟩
    · rw [fm_up_ne (by omega), fm_up_eq]
    · rw [fm_up_eq]
set_option maxRecDepth 20000 in
set_option maxHeartbeats 4000000 in
theorem k_X8_order {ω : fm_O} {σ : fm_Mem} {μ : fm_Mem} (hi : fj μ) (h : rel μ σ) {n i : Int} (rn : fm_R n) (ri : fm_R i) : fm_Met kc ω yX8_order cX8_order 3 (some .int) (fm_rm 4) [fm_r ω 0, fm_I n, fm_I i] σ (fm_pI fun z σ' => z = sp_order μ n i ∧ rel μ σ') := by
  refine fm_start (by decide) rfl (Nat.le_of_ble_eq_true rfl) [some (fm_r ω 0), some (fm_I n), some (fm_I i)] rfl (fun Γ => ?_)
  refine fm_ild1 dX8_order_0 ?_
  refine fm_iconst dX8_order_1 ?_
  refine fm_icmp_lt (⟨by omega, by omega⟩) (⟨by omega, by omega⟩) 17 dX8_order_2 (by decide) (fun h2 => ?_) (fun h2 => ?_)
  · refine fm_iconst dX8_order_17 ?_
    refine fm_iretI dX8_order_18 rfl ?_
    unfold sp_order
    first
      | (rw [if_pos (by omega)]; exact ⟨by omega, h⟩)
      | (rw [if_neg (by omega), if_neg (by omega), if_neg (by omega), if_neg (by omega)]; exact ⟨by omega, h⟩)
      | (rw [if_neg (by omega), if_pos (by omega), Int.toNat_natCast]; exact ⟨q32.2.1, h.frm q32.1.frm⟩)
      | (rw [if_neg (by omega), if_neg (by omega), if_pos (by omega), Int.toNat_natCast]; exact ⟨q32.2.2.1, h.frm q32.1.frm⟩)
      | (rw [if_neg (by omega), if_neg (by omega), if_neg (by omega), if_pos (by omega), Int.toNat_natCast, ← q32.2.2.2.2, dg_at q32.2.2.2.1 (by omega)]; exact ⟨rfl, h.frm q32.1.frm⟩)
  · refine fm_ild1 dX8_order_5 ?_
    refine fm_bipush (by decide) dX8_order_6 ?_
    refine fm_icmp_gt (⟨by omega, by omega⟩) (⟨by omega, by omega⟩) 17 dX8_order_8 (by decide) (fun h8 => ?_) (fun h8 => ?_)
    · refine fm_iconst dX8_order_17 ?_
      refine fm_iretI dX8_order_18 rfl ?_
      unfold sp_order
      first
        | (rw [if_pos (by omega)]; exact ⟨by omega, h⟩)
        | (rw [if_neg (by omega), if_neg (by omega), if_neg (by omega), if_neg (by omega)]; exact ⟨by omega, h⟩)
        | (rw [if_neg (by omega), if_pos (by omega), Int.toNat_natCast]; exact ⟨q32.2.1, h.frm q32.1.frm⟩)
        | (rw [if_neg (by omega), if_neg (by omega), if_pos (by omega), Int.toNat_natCast]; exact ⟨q32.2.2.1, h.frm q32.1.frm⟩)
        | (rw [if_neg (by omega), if_neg (by omega), if_neg (by omega), if_pos (by omega), Int.toNat_natCast, ← q32.2.2.2.2, dg_at q32.2.2.2.1 (by omega)]; exact ⟨rfl, h.frm q32.1.frm⟩)
    · refine fm_ild2 dX8_order_11 ?_
      refine fm_bipush (by decide) dX8_order_12 ?_
      refine fm_icmp_ge (⟨by omega, by omega⟩) (⟨by omega, by omega⟩) 19 dX8_order_14 (by decide) (fun h14 => ?_) (fun h14 => ?_)
      · refine fm_ild2 dX8_order_19 ?_
        refine fm_ild1 dX8_order_20 ?_
        refine fm_icmp_lt (⟨by omega, by omega⟩) (⟨by omega, by omega⟩) 27 dX8_order_21 (by decide) (fun h21 => ?_) (fun h21 => ?_)
        · obtain ⟨N, rfl⟩ : ∃ N : Nat, n = (N : Int) := ⟨n.toNat, by omega⟩
          refine fm_ald0 dX8_order_27 ?_
          refine gr_7_7 dX8_order_28 fd_X8_43 ?_
          refine fm_ild1 dX8_order_31 ?_
          refine fm_cvN dX8_order_32 cl_X8_202 (k_X0_findOrder hi h (by omega) (by omega)) ob_18 rfl rfl (by decide) rfl rfl (Nat.le_of_ble_eq_true rfl) (fun s32 q32 => ?_)
          refine fm_ild2 dX8_order_35 ?_
          refine fm_bipush (by decide) dX8_order_36 ?_
          refine fm_icmp_ne (⟨by omega, by omega⟩) (⟨by omega, by omega⟩) 49 dX8_order_38 (by decide) (fun h38 => ?_) (fun h38 => ?_)
          · refine fm_ild2 dX8_order_49 ?_
            refine fm_iconst dX8_order_50 ?_
            refine fm_icmp_ne (⟨by omega, by omega⟩) (⟨by omega, by omega⟩) 64 dX8_order_51 (by decide) (fun h51 => ?_) (fun h51 => ?_)
            · refine fm_ald0 dX8_order_64 ?_
              refine gr_7_7 dX8_order_65 fd_X8_43 ?_
              refine gr_0_3 dX8_order_68 fd_X8_211 ?_
              refine fm_ild2 dX8_order_71 ?_
              refine fm_iald dX8_order_72 ia_22 (by omega) (by omega) ?_
              refine fm_iretI dX8_order_73 rfl ?_
              unfold sp_order
              first
                | (rw [if_pos (by omega)]; exact ⟨by omega, h⟩)
                | (rw [if_neg (by omega), if_neg (by omega), if_neg (by omega), if_neg (by omega)]; exact ⟨by omega, h⟩)
                | (rw [if_neg (by omega), if_pos (by omega), Int.toNat_natCast]; exact ⟨q32.2.1, h.frm q32.1.frm⟩)
                | (rw [if_neg (by omega), if_neg (by omega), if_pos (by omega), Int.toNat_natCast]; exact ⟨q32.2.2.1, h.frm q32.1.frm⟩)
                | (rw [if_neg (by omega), if_neg (by omega), if_neg (by omega), if_pos (by omega), Int.toNat_natCast, ← q32.2.2.2.2, dg_at q32.2.2.2.1 (by omega)]; exact ⟨rfl, h.frm q32.1.frm⟩)
            · refine fm_ald0 dX8_order_54 ?_
              refine gr_7_7 dX8_order_55 fd_X8_43 ?_
              refine fm_cvI dX8_order_58 cl_X8_208 (k_X0_quarrel) ob_18 rfl rfl (by decide) rfl rfl (Nat.le_of_ble_eq_true rfl) (fun z58 s58 q58 => ?_)
              obtain ⟨rfl, rfl⟩ := q58
              refine fm_goto 73 dX8_order_61 (by decide) ?_
              refine fm_iretI dX8_order_73 rfl ?_
              unfold sp_order
              first
                | (rw [if_pos (by omega)]; exact ⟨by omega, h⟩)
                | (rw [if_neg (by omega), if_neg (by omega), if_neg (by omega), if_neg (by omega)]; exact ⟨by omega, h⟩)
                | (rw [if_neg (by omega), if_pos (by omega), Int.toNat_natCast]; exact ⟨q32.2.1, h.frm q32.1.frm⟩)
                | (rw [if_neg (by omega), if_neg (by omega), if_pos (by omega), Int.toNat_natCast]; exact ⟨q32.2.2.1, h.frm q32.1.frm⟩)
                | (rw [if_neg (by omega), if_neg (by omega), if_neg (by omega), if_pos (by omega), Int.toNat_natCast, ← q32.2.2.2.2, dg_at q32.2.2.2.1 (by omega)]; exact ⟨rfl, h.frm q32.1.frm⟩)
          · refine fm_ald0 dX8_order_41 ?_
            refine gr_7_7 dX8_order_42 fd_X8_43 ?_
            refine fm_cvI dX8_order_45 cl_X8_205 (k_X0_rivals) ob_18 rfl rfl (by decide) rfl rfl (Nat.le_of_ble_eq_true rfl) (fun z45 s45 q45 => ?_)
            obtain ⟨rfl, rfl⟩ := q45
            refine fm_iretI dX8_order_48 rfl ?_
            unfold sp_order
            first
              | (rw [if_pos (by omega)]; exact ⟨by omega, h⟩)
              | (rw [if_neg (by omega), if_neg (by omega), if_neg (by omega), if_neg (by omega)]; exact ⟨by omega, h⟩)
              | (rw [if_neg (by omega), if_pos (by omega), Int.toNat_natCast]; exact ⟨q32.2.1, h.frm q32.1.frm⟩)
              | (rw [if_neg (by omega), if_neg (by omega), if_pos (by omega), Int.toNat_natCast]; exact ⟨q32.2.2.1, h.frm q32.1.frm⟩)
              | (rw [if_neg (by omega), if_neg (by omega), if_neg (by omega), if_pos (by omega), Int.toNat_natCast, ← q32.2.2.2.2, dg_at q32.2.2.2.1 (by omega)]; exact ⟨rfl, h.frm q32.1.frm⟩)
        · refine fm_bipush (by decide) dX8_order_24 ?_
          refine fm_iretI dX8_order_26 rfl ?_
          unfold sp_order
          first
            | (rw [if_pos (by omega)]; exact ⟨by omega, h⟩)
            | (rw [if_neg (by omega), if_neg (by omega), if_neg (by omega), if_neg (by omega)]; exact ⟨by omega, h⟩)
            | (rw [if_neg (by omega), if_pos (by omega), Int.toNat_natCast]; exact ⟨q32.2.1, h.frm q32.1.frm⟩)
            | (rw [if_neg (by omega), if_neg (by omega), if_pos (by omega), Int.toNat_natCast]; exact ⟨q32.2.2.1, h.frm q32.1.frm⟩)
            | (rw [if_neg (by omega), if_neg (by omega), if_neg (by omega), if_pos (by omega), Int.toNat_natCast, ← q32.2.2.2.2, dg_at q32.2.2.2.1 (by omega)]; exact ⟨rfl, h.frm q32.1.frm⟩)
      · refine fm_iconst dX8_order_17 ?_
        refine fm_iretI dX8_order_18 rfl ?_
        unfold sp_order
        first
          | (rw [if_pos (by omega)]; exact ⟨by omega, h⟩)
          | (rw [if_neg (by omega), if_neg (by omega), if_neg (by omega), if_neg (by omega)]; exact ⟨by omega, h⟩)
          | (rw [if_neg (by omega), if_pos (by omega), Int.toNat_natCast]; exact ⟨q32.2.1, h.frm q32.1.frm⟩)
          | (rw [if_neg (by omega), if_neg (by omega), if_pos (by omega), Int.toNat_natCast]; exact ⟨q32.2.2.1, h.frm q32.1.frm⟩)
          | (rw [if_neg (by omega), if_neg (by omega), if_neg (by omega), if_pos (by omega), Int.toNat_natCast, ← q32.2.2.2.2, dg_at q32.2.2.2.1 (by omega)]; exact ⟨rfl, h.frm q32.1.frm⟩)
