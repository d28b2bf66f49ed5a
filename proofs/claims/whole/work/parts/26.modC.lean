/-! the model: wholes and what rests on it -/
def sgm (μ τ : fm_Mem) : Prop := sam μ τ ∧ ∀ c p : Nat, (c : Int) < μ 0 0 → (p : Int) < μ 1 6 → τ 18 (40 * c + p) = std μ c p
def fr8 (σ τ : fm_Mem) : Prop := ∀ k x, k < 19 → τ k x = σ k x
theorem fr8.rfl {a : fm_Mem} : fr8 a a := fun _ _ _ => Eq.refl _
theorem fr8.trans {a b c : fm_Mem} (h1 : fr8 a b) (h2 : fr8 b c) : fr8 a c := fun k x q => (h2 k x q).trans (h1 k x q)
theorem fr8.up {a b : fm_Mem} {k j : Nat} {v : Int} (h : fr8 a b) (hk : 19 ≤ k) : fr8 a (fm_up b k j v) := fun k2 j2 h1 => by
  rw [fm_up_ne (by omega)]
  exact h k2 j2 h1
theorem sgm.fr8 {μ σ τ : fm_Mem} (h : sgm μ σ) (hr : fr8 σ τ) : sgm μ τ := ⟨fun k j hk => by rw [hr k j (by omega)]; exact h.1 k j hk, fun c p hc hp => by rw [hr _ _ (by omega)]; exact h.2 c p hc hp⟩
theorem std_c {μ : fm_Mem} (hf : fi μ) {c p : Nat} (hc : c < 6) (hp : (p : Int) < μ 1 6) (h : 0 ≤ std μ c p) : (c : Int) < μ 0 0 := by
  have h1 := std_b (μ := μ) (c := c) (p := p) hp
  have h2 := hf.2.2.1 c hc
  omega
set_option maxRecDepth 20000 in
set_option maxHeartbeats 4000000 in
theorem k_X9_may {ω : fm_O} {σ : fm_Mem} {μ : fm_Mem} (hi : fj μ) (g : sgm μ σ) {p : Int} (hp : 0 ≤ p ∧ p < μ 1 6) {c : Int} (hc : 0 ≤ c ∧ c ≤ 6) : fm_Met km ω yX9_may cX9_may 3 (some .boolean) (fm_rm 0) [fm_r ω 0, fm_I p, fm_I c] σ (fm_pI fun z σ' => ((mayP μ p.toNat c.toNat) ∧ z = 1 ∨ ¬ (mayP μ p.toNat c.toNat) ∧ z = 0) ∧ σ = σ') := by
  refine fm_start (by decide) rfl (Nat.le_of_ble_eq_true rfl) [some (fm_r ω 0), some (fm_I p), some (fm_I c)] rfl (fun Γ => ?_)
  have hf := hi.fi
  have b0 := hf.1
  have b6 := hf.2.1 6 (by omega)
  have m : ∀ k j, k < 16 → σ k j = μ k j := g.1
  have sb := std_b (μ := μ) (c := c.toNat) (p := p.toNat) (by omega)
  have cs : c < 6 → 0 ≤ μ 1 c.toNat ∧ μ 1 c.toNat ≤ 40 := fun q => hf.2.1 c.toNat (by omega)
  have sc : c < 6 → 0 ≤ std μ c.toNat p.toNat → c < μ 0 0 := fun q1 q2 => by have := std_c hf (c := c.toNat) (p := p.toNat) (by omega) (by omega) q2; omega
  have es : c < μ 0 0 → σ 18 (40 * c + p).toNat = std μ c.toNat p.toNat := fun q => by rw [← g.2 c.toNat p.toNat (by omega) (by omega)]; congr 1; omega
  refine fm_ild2 dX9_may_0 ?_
  refine fm_bipush (by decide) dX9_may_1 ?_
  refine fm_icmp_eq (⟨by omega, by omega⟩) (⟨by omega, by omega⟩) 28 dX9_may_3 (by decide) (fun h3 => ?_) (fun h3 => ?_)
  · refine fm_iconst dX9_may_28 ?_
    refine fm_goto 33 dX9_may_29 (by decide) ?_
    exact fm_zretI dX9_may_33 rfl (by omega) ⟨by omega, rfl⟩
  · refine fm_ild2 dX9_may_6 ?_
    refine fm_ald0 dX9_may_7 ?_
    refine gi_8_0 dX9_may_8 fd_X9_73 ?_
    rw [m 0 0 (by omega)]
    refine fm_icmp_ge (⟨by omega, by omega⟩) (⟨by omega, by omega⟩) 32 dX9_may_11 (by decide) (fun h11 => ?_) (fun h11 => ?_)
    · refine fm_iconst dX9_may_32 ?_
      exact fm_zretI dX9_may_33 rfl (by omega) ⟨by omega, rfl⟩
    · refine fm_ald0 dX9_may_14 ?_
      refine gr_8_21 dX9_may_15 fd_X9_61 ?_
      refine fm_bipush (by decide) dX9_may_18 ?_
      refine fm_ild2 dX9_may_20 ?_
      refine fm_imul dX9_may_21 ?_
      refine fm_ild1 dX9_may_22 ?_
      refine fm_iadd dX9_may_23 ?_
      refine fm_iald dX9_may_24 ma_18 (by omega) (by omega) ?_
      rw [es (by omega)]
      refine fm_if_lt (⟨by omega, by omega⟩) 32 dX9_may_25 (by decide) (fun h25 => ?_) (fun h25 => ?_)
      · refine fm_iconst dX9_may_32 ?_
        exact fm_zretI dX9_may_33 rfl (by omega) ⟨by omega, rfl⟩
      · refine fm_iconst dX9_may_28 ?_
        refine fm_goto 33 dX9_may_29 (by decide) ?_
        exact fm_zretI dX9_may_33 rfl (by omega) ⟨by omega, rfl⟩
set_option maxRecDepth 20000 in
set_option maxHeartbeats 4000000 in
theorem k_X9_worn {ω : fm_O} {σ : fm_Mem} {μ : fm_Mem} (hi : fj μ) (g : sgm μ σ) {c p : Int} (hc : 0 ≤ c ∧ c < 6) (hp : 0 ≤ p ∧ p < μ 1 6) (hs : 0 ≤ std μ c.toNat p.toNat) : fm_Met km ω yX9_worn cX9_worn 3 (some .int) (fm_rm 0) [fm_r ω 0, fm_I c, fm_I p] σ (fm_pI fun z σ' => z = wn μ p.toNat c.toNat ∧ σ = σ') := by
  refine fm_start (by decide) rfl (Nat.le_of_ble_eq_true rfl) [some (fm_r ω 0), some (fm_I c), some (fm_I p)] rfl (fun Γ => ?_)
  have hf := hi.fi
  have b0 := hf.1
  have b6 := hf.2.1 6 (by omega)
  have m : ∀ k j, k < 16 → σ k j = μ k j := g.1
  have sb := std_b (μ := μ) (c := c.toNat) (p := p.toNat) (by omega)
  have cs : c < 6 → 0 ≤ μ 1 c.toNat ∧ μ 1 c.toNat ≤ 40 := fun q => hf.2.1 c.toNat (by omega)
  have sc : c < 6 → 0 ≤ std μ c.toNat p.toNat → c < μ 0 0 := fun q1 q2 => by have := std_c hf (c := c.toNat) (p := p.toNat) (by omega) (by omega) q2; omega
  have es : c < μ 0 0 → σ 18 (40 * c + p).toNat = std μ c.toNat p.toNat := fun q => by rw [← g.2 c.toNat p.toNat (by omega) (by omega)]; congr 1; omega
  refine fm_ald0 dX9_worn_0 ?_
  refine gr_8_3 dX9_worn_1 fd_X9_16 ?_
  refine fm_bipush (by decide) dX9_worn_4 ?_
  refine fm_ild1 dX9_worn_6 ?_
  refine fm_imul dX9_worn_7 ?_
  refine fm_ald0 dX9_worn_8 ?_
  refine gr_8_21 dX9_worn_9 fd_X9_61 ?_
  refine fm_bipush (by decide) dX9_worn_12 ?_
  refine fm_ild1 dX9_worn_14 ?_
  refine fm_imul dX9_worn_15 ?_
  refine fm_ild2 dX9_worn_16 ?_
  refine fm_iadd dX9_worn_17 ?_
  refine fm_iald dX9_worn_18 ma_18 (by omega) (by omega) ?_
  rw [es (by omega)]
  refine fm_iadd dX9_worn_19 ?_
  refine fm_iald dX9_worn_20 ma_3 (by omega) (by omega) ?_
  refine fm_iretI dX9_worn_21 rfl ⟨?_, rfl⟩
  rw [m 3 _ (by omega), show (40 * c + std μ c.toNat p.toNat).toNat = 40 * c.toNat + (std μ c.toNat p.toNat).toNat by omega]
  rfl
set_option maxRecDepth 20000 in
set_option maxHeartbeats 4000000 in
theorem k_X9_view {ω : fm_O} {σ : fm_Mem} {μ : fm_Mem} (hi : fj μ) (g : sgm μ σ) {c p : Int} (hc : 0 ≤ c ∧ c < 6) (hp : 0 ≤ p ∧ p < μ 1 6) (hs : 0 ≤ std μ c.toNat p.toNat) : fm_Met km ω yX9_view cX9_view 3 (some .int) (fm_rm 0) [fm_r ω 0, fm_I c, fm_I p] σ (fm_pI fun z σ' => z = cmr μ p.toNat c.toNat ∧ σ = σ') := by
  refine fm_start (by decide) rfl (Nat.le_of_ble_eq_true rfl) [some (fm_r ω 0), some (fm_I c), some (fm_I p)] rfl (fun Γ => ?_)
  have hf := hi.fi
  have b0 := hf.1
  have b6 := hf.2.1 6 (by omega)
  have m : ∀ k j, k < 16 → σ k j = μ k j := g.1
  have sb := std_b (μ := μ) (c := c.toNat) (p := p.toNat) (by omega)
  have cs : c < 6 → 0 ≤ μ 1 c.toNat ∧ μ 1 c.toNat ≤ 40 := fun q => hf.2.1 c.toNat (by omega)
  have sc : c < 6 → 0 ≤ std μ c.toNat p.toNat → c < μ 0 0 := fun q1 q2 => by have := std_c hf (c := c.toNat) (p := p.toNat) (by omega) (by omega) q2; omega
  have es : c < μ 0 0 → σ 18 (40 * c + p).toNat = std μ c.toNat p.toNat := fun q => by rw [← g.2 c.toNat p.toNat (by omega) (by omega)]; congr 1; omega
  refine fm_ald0 dX9_view_0 ?_
  refine gr_8_4 dX9_view_1 fd_X9_19 ?_
  refine fm_bipush (by decide) dX9_view_4 ?_
  refine fm_ild1 dX9_view_6 ?_
  refine fm_imul dX9_view_7 ?_
  refine fm_ald0 dX9_view_8 ?_
  refine gr_8_21 dX9_view_9 fd_X9_61 ?_
  refine fm_bipush (by decide) dX9_view_12 ?_
  refine fm_ild1 dX9_view_14 ?_
  refine fm_imul dX9_view_15 ?_
  refine fm_ild2 dX9_view_16 ?_
  refine fm_iadd dX9_view_17 ?_
  refine fm_iald dX9_view_18 ma_18 (by omega) (by omega) ?_
  rw [es (by omega)]
  refine fm_iadd dX9_view_19 ?_
  refine fm_iald dX9_view_20 ma_4 (by omega) (by omega) ?_
  refine fm_iretI dX9_view_21 rfl ⟨?_, rfl⟩
  rw [m 4 _ (by omega), show (40 * c + std μ c.toNat p.toNat).toNat = 40 * c.toNat + (std μ c.toNat p.toNat).toNat by omega]
  rfl
set_option maxRecDepth 20000 in
set_option maxHeartbeats 4000000 in
theorem k_X9_own {ω : fm_O} {σ : fm_Mem} {μ : fm_Mem} (hi : fj μ) (g : sgm μ σ) {p : Int} (hp : 0 ≤ p ∧ p < μ 1 6) {c : Int} (hc : 0 ≤ c ∧ c ≤ 6) (hm : mayP μ p.toNat c.toNat) : fm_Met km ω yX9_own cX9_own 3 (some .int) (fm_rm 1) [fm_r ω 0, fm_I p, fm_I c] σ (fm_pI fun z σ' => z = own μ p.toNat c.toNat ∧ σ = σ') := by
  refine fm_start (by decide) rfl (Nat.le_of_ble_eq_true rfl) [some (fm_r ω 0), some (fm_I p), some (fm_I c)] rfl (fun Γ => ?_)
  have hf := hi.fi
  have b0 := hf.1
  have b6 := hf.2.1 6 (by omega)
  have m : ∀ k j, k < 16 → σ k j = μ k j := g.1
  refine fm_ild2 dX9_own_0 ?_
  refine fm_bipush (by decide) dX9_own_1 ?_
  refine fm_icmp_ne (⟨by omega, by omega⟩) (⟨by omega, by omega⟩) 15 dX9_own_3 (by decide) (fun h3 => ?_) (fun h3 => ?_)
  · refine fm_ald0 dX9_own_15 ?_
    refine fm_ild2 dX9_own_16 ?_
    refine fm_ild1 dX9_own_17 ?_
    refine fm_cvI dX9_own_18 cl_X9_119 (k_X9_worn hi g (by omega) hp (by omega)) mb_0 rfl rfl (by decide) rfl rfl (Nat.le_of_ble_eq_true rfl) (fun z18 s18 q18 => ?_)
    obtain ⟨rfl, rfl⟩ := q18
    refine fm_iretI dX9_own_21 rfl ⟨?_, rfl⟩
    unfold own
    first
      | (rw [if_pos (by omega)]; exact m 6 1 (by omega))
      | (rw [if_neg (by omega)]; rfl)
  · refine fm_ald0 dX9_own_6 ?_
    refine gr_8_6 dX9_own_7 fd_X9_25 ?_
    refine fm_iconst dX9_own_10 ?_
    refine fm_iald dX9_own_11 ma_6 (by omega) (by omega) ?_
    refine fm_goto 21 dX9_own_12 (by decide) ?_
    refine fm_iretI dX9_own_21 rfl ⟨?_, rfl⟩
    unfold own
    first
      | (rw [if_pos (by omega)]; exact m 6 1 (by omega))
      | (rw [if_neg (by omega)]; rfl)
set_option maxRecDepth 20000 in
set_option maxHeartbeats 4000000 in
theorem k_X9_between {ω : fm_O} {σ : fm_Mem} {μ : fm_Mem} (hi : fj μ) (g : sgm μ σ) {p c d : Int} (hp : 0 ≤ p ∧ p + 1 < μ 1 6) (hc : 0 ≤ c ∧ c ≤ 6) (hd : 0 ≤ d ∧ d ≤ 6) (mc : c = 6 ∨ mayP μ p.toNat c.toNat) (md : mayP μ (p + 1).toNat d.toNat) : fm_Met km ω yX9_between cX9_between 4 (some .int) (fm_rm 1) [fm_r ω 0, fm_I p, fm_I c, fm_I d] σ (fm_pI fun z σ' => z = jn μ (p + 1).toNat c.toNat d.toNat ∧ σ = σ') := by
  refine fm_start (by decide) rfl (Nat.le_of_ble_eq_true rfl) [some (fm_r ω 0), some (fm_I p), some (fm_I c), some (fm_I d)] rfl (fun Γ => ?_)
  have hf := hi.fi
  have b0 := hf.1
  have b6 := hf.2.1 6 (by omega)
  have m : ∀ k j, k < 16 → σ k j = μ k j := g.1
  have y1 := hf.2.2.2.2.2.2.1 p.toNat
  have y2 := hf.2.2.2.2.2.2.1 (p + 1).toNat
  refine fm_ild2 dX9_between_0 ?_
  refine fm_bipush (by decide) dX9_between_1 ?_
  refine fm_icmp_eq (⟨by omega, by omega⟩) (⟨by omega, by omega⟩) 29 dX9_between_3 (by decide) (fun h3 => ?_) (fun h3 => ?_)
  · refine fm_iconst dX9_between_29 ?_
    refine fm_iretI dX9_between_30 rfl ⟨?_, rfl⟩
    unfold jn
    rw [show (p + 1).toNat - 1 = p.toNat by omega]
    first
      | (rw [if_pos (by omega)]; done)
      | (rw [if_neg (by omega), if_pos (by omega), if_pos (by omega)]; done)
      | (rw [if_neg (by omega), if_neg (by omega), if_pos (by omega)]; done)
      | (rw [if_neg (by omega), if_pos (by omega), if_neg (by omega)]; done)
      | (rw [if_neg (by omega), if_neg (by omega), if_neg (by omega)]; done)
  · refine fm_ild3 dX9_between_6 ?_
    refine fm_bipush (by decide) dX9_between_7 ?_
    refine fm_icmp_eq (⟨by omega, by omega⟩) (⟨by omega, by omega⟩) 29 dX9_between_9 (by decide) (fun h9 => ?_) (fun h9 => ?_)
    · refine fm_iconst dX9_between_29 ?_
      refine fm_iretI dX9_between_30 rfl ⟨?_, rfl⟩
      unfold jn
      rw [show (p + 1).toNat - 1 = p.toNat by omega]
      first
        | (rw [if_pos (by omega)]; done)
        | (rw [if_neg (by omega), if_pos (by omega), if_pos (by omega)]; done)
        | (rw [if_neg (by omega), if_neg (by omega), if_pos (by omega)]; done)
        | (rw [if_neg (by omega), if_pos (by omega), if_neg (by omega)]; done)
        | (rw [if_neg (by omega), if_neg (by omega), if_neg (by omega)]; done)
    · refine fm_ald0 dX9_between_12 ?_
      refine gr_8_5 dX9_between_13 fd_X9_22 ?_
      refine fm_ild1 dX9_between_16 ?_
      refine fm_iald dX9_between_17 ma_5 (by omega) (by omega) ?_
      rw [m 5 _ (by omega)]
      refine fm_ald0 dX9_between_18 ?_
      refine gr_8_5 dX9_between_19 fd_X9_22 ?_
      refine fm_ild1 dX9_between_22 ?_
      refine fm_iconst dX9_between_23 ?_
      refine fm_iadd dX9_between_24 ?_
      refine fm_iald dX9_between_25 ma_5 (by omega) (by omega) ?_
      rw [m 5 _ (by omega)]
      refine fm_icmp_eq (⟨by omega, by omega⟩) (⟨by omega, by omega⟩) 31 dX9_between_26 (by decide) (fun h26 => ?_) (fun h26 => ?_)
      · refine fm_ild2 dX9_between_31 ?_
        refine fm_ild3 dX9_between_32 ?_
        refine fm_icmp_ne (⟨by omega, by omega⟩) (⟨by omega, by omega⟩) 40 dX9_between_33 (by decide) (fun h33 => ?_) (fun h33 => ?_)
        · refine fm_ald0 dX9_between_40 ?_
          refine gr_8_6 dX9_between_41 fd_X9_25 ?_
          refine fm_iconst dX9_between_44 ?_
          refine fm_iald dX9_between_45 ma_6 (by omega) (by omega) ?_
          rw [show (2 : Int).toNat = 2 from rfl, m 6 2 (by omega)]
          refine fm_ald0 dX9_between_46 ?_
          refine fm_ild2 dX9_between_47 ?_
          refine fm_ild1 dX9_between_48 ?_
          refine fm_cvI dX9_between_49 cl_X9_115 (k_X9_view hi g (by omega) (by omega) (by omega)) mb_0 rfl rfl (by decide) rfl rfl (Nat.le_of_ble_eq_true rfl) (fun z49 s49 q49 => ?_)
          obtain ⟨rfl, rfl⟩ := q49
          have c1 := hf.2.2.2.2.2.1 (40 * c.toNat + (std μ c.toNat p.toNat).toNat)
          change 0 ≤ cmr μ p.toNat c.toNat ∧ cmr μ p.toNat c.toNat ≤ 1 at c1
          refine fm_ald0 dX9_between_52 ?_
          refine fm_ild3 dX9_between_53 ?_
          refine fm_ild1 dX9_between_54 ?_
          refine fm_iconst dX9_between_55 ?_
          refine fm_iadd dX9_between_56 ?_
          refine fm_cvI dX9_between_57 cl_X9_115 (k_X9_view hi g (p := p + 1) (by omega) (by omega) (by omega)) mb_0 rfl rfl (by decide) rfl rfl (Nat.le_of_ble_eq_true rfl) (fun z57 s57 q57 => ?_)
          obtain ⟨rfl, rfl⟩ := q57
          have c2 := hf.2.2.2.2.2.1 (40 * d.toNat + (std μ d.toNat (p + 1).toNat).toNat)
          change 0 ≤ cmr μ (p + 1).toNat d.toNat ∧ cmr μ (p + 1).toNat d.toNat ≤ 1 at c2
          refine fm_icmp_ne (⟨by omega, by omega⟩) (⟨by omega, by omega⟩) 67 dX9_between_60 (by decide) (fun h60 => ?_) (fun h60 => ?_)
          · refine fm_ald0 dX9_between_67 ?_
            refine gr_8_6 dX9_between_68 fd_X9_25 ?_
            refine fm_iconst dX9_between_71 ?_
            refine fm_iald dX9_between_72 ma_6 (by omega) (by omega) ?_
            rw [show (3 : Int).toNat = 3 from rfl, m 6 3 (by omega)]
            refine fm_iadd dX9_between_73 ?_
            refine fm_iretI dX9_between_74 rfl ⟨?_, rfl⟩
            unfold jn
            rw [show (p + 1).toNat - 1 = p.toNat by omega]
            first
              | (rw [if_pos (by omega)]; done)
              | (rw [if_neg (by omega), if_pos (by omega), if_pos (by omega)]; done)
              | (rw [if_neg (by omega), if_neg (by omega), if_pos (by omega)]; done)
              | (rw [if_neg (by omega), if_pos (by omega), if_neg (by omega)]; done)
              | (rw [if_neg (by omega), if_neg (by omega), if_neg (by omega)]; done)
          · refine fm_iconst dX9_between_63 ?_
            refine fm_goto 73 dX9_between_64 (by decide) ?_
            refine fm_iadd dX9_between_73 ?_
            refine fm_iretI dX9_between_74 rfl ⟨?_, rfl⟩
            unfold jn
            rw [show (p + 1).toNat - 1 = p.toNat by omega]
            first
              | (rw [if_pos (by omega)]; done)
              | (rw [if_neg (by omega), if_pos (by omega), if_pos (by omega)]; done)
              | (rw [if_neg (by omega), if_neg (by omega), if_pos (by omega)]; done)
              | (rw [if_neg (by omega), if_pos (by omega), if_neg (by omega)]; done)
              | (rw [if_neg (by omega), if_neg (by omega), if_neg (by omega)]; done)
        · refine fm_iconst dX9_between_36 ?_
          refine fm_goto 46 dX9_between_37 (by decide) ?_
          refine fm_ald0 dX9_between_46 ?_
          refine fm_ild2 dX9_between_47 ?_
          refine fm_ild1 dX9_between_48 ?_
          refine fm_cvI dX9_between_49 cl_X9_115 (k_X9_view hi g (by omega) (by omega) (by omega)) mb_0 rfl rfl (by decide) rfl rfl (Nat.le_of_ble_eq_true rfl) (fun z49 s49 q49 => ?_)
          obtain ⟨rfl, rfl⟩ := q49
          have c1 := hf.2.2.2.2.2.1 (40 * c.toNat + (std μ c.toNat p.toNat).toNat)
          change 0 ≤ cmr μ p.toNat c.toNat ∧ cmr μ p.toNat c.toNat ≤ 1 at c1
          refine fm_ald0 dX9_between_52 ?_
          refine fm_ild3 dX9_between_53 ?_
          refine fm_ild1 dX9_between_54 ?_
          refine fm_iconst dX9_between_55 ?_
          refine fm_iadd dX9_between_56 ?_
          refine fm_cvI dX9_between_57 cl_X9_115 (k_X9_view hi g (p := p + 1) (by omega) (by omega) (by omega)) mb_0 rfl rfl (by decide) rfl rfl (Nat.le_of_ble_eq_true rfl) (fun z57 s57 q57 => ?_)
          obtain ⟨rfl, rfl⟩ := q57
          have c2 := hf.2.2.2.2.2.1 (40 * d.toNat + (std μ d.toNat (p + 1).toNat).toNat)
          change 0 ≤ cmr μ (p + 1).toNat d.toNat ∧ cmr μ (p + 1).toNat d.toNat ≤ 1 at c2
          refine fm_icmp_ne (⟨by omega, by omega⟩) (⟨by omega, by omega⟩) 67 dX9_between_60 (by decide) (fun h60 => ?_) (fun h60 => ?_)
          · refine fm_ald0 dX9_between_67 ?_
            refine gr_8_6 dX9_between_68 fd_X9_25 ?_
            refine fm_iconst dX9_between_71 ?_
            refine fm_iald dX9_between_72 ma_6 (by omega) (by omega) ?_
            rw [show (3 : Int).toNat = 3 from rfl, m 6 3 (by omega)]
            refine fm_iadd dX9_between_73 ?_
            refine fm_iretI dX9_between_74 rfl ⟨?_, rfl⟩
            unfold jn
            rw [show (p + 1).toNat - 1 = p.toNat by omega]
            first
              | (rw [if_pos (by omega)]; done)
              | (rw [if_neg (by omega), if_pos (by omega), if_pos (by omega)]; done)
              | (rw [if_neg (by omega), if_neg (by omega), if_pos (by omega)]; done)
              | (rw [if_neg (by omega), if_pos (by omega), if_neg (by omega)]; done)
              | (rw [if_neg (by omega), if_neg (by omega), if_neg (by omega)]; done)
          · refine fm_iconst dX9_between_63 ?_
            refine fm_goto 73 dX9_between_64 (by decide) ?_
            refine fm_iadd dX9_between_73 ?_
            refine fm_iretI dX9_between_74 rfl ⟨?_, rfl⟩
            unfold jn
            rw [show (p + 1).toNat - 1 = p.toNat by omega]
            first
              | (rw [if_pos (by omega)]; done)
              | (rw [if_neg (by omega), if_pos (by omega), if_pos (by omega)]; done)
              | (rw [if_neg (by omega), if_neg (by omega), if_pos (by omega)]; done)
              | (rw [if_neg (by omega), if_pos (by omega), if_neg (by omega)]; done)
              | (rw [if_neg (by omega), if_neg (by omega), if_neg (by omega)]; done)
      · refine fm_iconst dX9_between_29 ?_
        refine fm_iretI dX9_between_30 rfl ⟨?_, rfl⟩
        unfold jn
        rw [show (p + 1).toNat - 1 = p.toNat by omega]
        first
          | (rw [if_pos (by omega)]; done)
          | (rw [if_neg (by omega), if_pos (by omega), if_pos (by omega)]; done)
          | (rw [if_neg (by omega), if_neg (by omega), if_pos (by omega)]; done)
          | (rw [if_neg (by omega), if_pos (by omega), if_neg (by omega)]; done)
          | (rw [if_neg (by omega), if_neg (by omega), if_neg (by omega)]; done)
set_option maxRecDepth 20000 in
set_option maxHeartbeats 4000000 in
theorem l_rest {ω : fm_O} {σ : fm_Mem} {Γ : fm_G} {μ : fm_Mem} (hi : fj μ) (g : sgm μ σ) {p c : Int} (hp : 0 ≤ p ∧ p + 1 < μ 1 6) (hc : 0 ≤ c ∧ c ≤ 6) (mc : mayP μ p.toNat c.toNat) (hr : p + 1 < μ 1 6 → ∀ d : Nat, d < 7 → mayP μ (p + 1).toNat d → σ 19 (7 * (p + 1).toNat + d) = prc μ (p + 1).toNat d) : ∀ (d : Nat) (z b : Int) (o5 : Option Value), 0 ≤ z → z + d = 7 → b = (bf (hB μ (p + 1).toNat) (fv μ (p + 1).toNat c.toNat) 99999 0 z.toNat).1 → fm_W km ω Γ (cX9_rest, RX9, fm_rm 2, 6, (some .int)) (fm_pI fun z σ' => z = (if p + 1 < μ 1 6 then mv μ (p + 1).toNat c.toNat else 0) ∧ σ = σ') σ 6 [some (fm_r ω 0), some (fm_I p), some (fm_I c), some (fm_I b), some (fm_I z), o5] [] := by
  have hf := hi.fi
  have b6 := hf.2.1 6 (by omega)
  have m : ∀ k j, k < 16 → σ k j = μ k j := g.1
  intro d
  induction d with
  | zero =>
    intro z b o5 h0 hz hb
    refine fm_ild4 dX9_rest_6 ?_
    refine fm_bipush (by decide) dX9_rest_8 ?_
    refine fm_icmp_gt (⟨by omega, by omega⟩) (⟨by omega, by omega⟩) 82 dX9_rest_10 (by decide) (fun h10 => ?_) (fun h10 => ?_)
    · refine fm_ild1 dX9_rest_82 ?_
      refine fm_iconst dX9_rest_83 ?_
      refine fm_iadd dX9_rest_84 ?_
      refine fm_ald0 dX9_rest_85 ?_
      refine gr_8_1 dX9_rest_86 fd_X9_7 ?_
      refine fm_bipush (by decide) dX9_rest_89 ?_
      refine fm_iald dX9_rest_91 ma_1 (by omega) (by omega) ?_
      rw [show (6 : Int).toNat = 6 from rfl, m 1 6 (by omega)]
      refine fm_icmp_ne (⟨by omega, by omega⟩) (⟨by omega, by omega⟩) 99 dX9_rest_92 (by decide) (fun h92 => ?_) (fun h92 => ?_)
      · refine fm_ild3 dX9_rest_99 ?_
        exact fm_iretI dX9_rest_100 rfl ⟨by rw [if_pos (by omega), hb, show z.toNat = 7 by omega, bf_init hf _ _ _ _ (by omega)], rfl⟩
      · exfalso; omega
    · exfalso; omega
  | succ d ih =>
    intro z b o5 h0 hz hb
    have e1 : (z + 1).toNat = z.toNat + 1 := by omega
    have y1 := fv_b hf (p + 1).toNat c.toNat z.toNat
    have y2 := jn_b hf (p + 1).toNat c.toNat z.toNat
    have y3 := prc_b hf (p + 1).toNat z.toNat
    have y4 : fv μ (p + 1).toNat c.toNat z.toNat = jn μ (p + 1).toNat c.toNat z.toNat + prc μ (p + 1).toNat z.toNat := rfl
    have y5 := (bf_le (h := hB μ (p + 1).toNat) (f := fv μ (p + 1).toNat c.toNat) (b0 := 99999) (s0 := 0) z.toNat).1
    have y6 := bf_pos (h := hB μ (p + 1).toNat) (f := fv μ (p + 1).toNat c.toNat) (b0 := 99999) (s0 := 0) (fun s => (fv_b hf (p + 1).toNat c.toNat s).1) (by omega) z.toNat
    have ep : mayP μ (p + 1).toNat z.toNat → σ 19 (7 * (p + 1) + z).toNat = prc μ (p + 1).toNat z.toNat := fun q => by rw [← hr (by omega) z.toNat (by omega) q]; congr 1; omega
    refine fm_ild4 dX9_rest_6 ?_
    refine fm_bipush (by decide) dX9_rest_8 ?_
    refine fm_icmp_gt (⟨by omega, by omega⟩) (⟨by omega, by omega⟩) 82 dX9_rest_10 (by decide) (fun h10 => ?_) (fun h10 => ?_)
    · exfalso; omega
    · refine fm_ild1 dX9_rest_13 ?_
      refine fm_iconst dX9_rest_14 ?_
      refine fm_iadd dX9_rest_15 ?_
      refine fm_ald0 dX9_rest_16 ?_
      refine gr_8_1 dX9_rest_17 fd_X9_7 ?_
      refine fm_bipush (by decide) dX9_rest_20 ?_
      refine fm_iald dX9_rest_22 ma_1 (by omega) (by omega) ?_
      rw [show (6 : Int).toNat = 6 from rfl, m 1 6 (by omega)]
      refine fm_icmp_ge (⟨by omega, by omega⟩) (⟨by omega, by omega⟩) 82 dX9_rest_23 (by decide) (fun h23 => ?_) (fun h23 => ?_)
      · exfalso; omega
      · refine fm_ald0 dX9_rest_26 ?_
        refine fm_ild1 dX9_rest_27 ?_
        refine fm_iconst dX9_rest_28 ?_
        refine fm_iadd dX9_rest_29 ?_
        refine fm_ild4 dX9_rest_30 ?_
        refine fm_cvI dX9_rest_32 cl_X9_123 (k_X9_may hi g (p := p + 1) (by omega) (by omega)) mb_0 rfl rfl (by decide) rfl rfl (Nat.le_of_ble_eq_true rfl) (fun z32 s32 q32 => ?_)
        obtain ⟨q32, rfl⟩ := q32
        refine fm_if_eq (⟨by omega, by omega⟩) 76 dX9_rest_35 (by decide) (fun h35 => ?_) (fun h35 => ?_)
        · refine fm_inc4 rfl dX9_rest_76 ?_
          refine fm_goto 6 dX9_rest_79 (by decide) ?_
          refine ih (z + 1) _ _ (by omega) (by omega) ?_
          rw [e1, bf]
          first
            | (rw [if_pos ⟨hB_t.mpr (by omega), by omega⟩]; simp only; omega)
            | (rw [if_neg (fun q => by have := hB_t.mp q.1; omega)]; exact hb)
        · refine fm_ald0 dX9_rest_38 ?_
          refine gr_8_22 dX9_rest_39 fd_X9_64 ?_
          refine fm_bipush (by decide) dX9_rest_42 ?_
          refine fm_ild1 dX9_rest_44 ?_
          refine fm_iconst dX9_rest_45 ?_
          refine fm_iadd dX9_rest_46 ?_
          refine fm_imul dX9_rest_47 ?_
          refine fm_ild4 dX9_rest_48 ?_
          refine fm_iadd dX9_rest_50 ?_
          refine fm_iald dX9_rest_51 ma_19 (by omega) (by omega) ?_
          rw [ep (by omega)]
          refine fm_ald0 dX9_rest_52 ?_
          refine fm_ild1 dX9_rest_53 ?_
          refine fm_ild2 dX9_rest_54 ?_
          refine fm_ild4 dX9_rest_55 ?_
          refine fm_cvI dX9_rest_57 cl_X9_126 (k_X9_between hi g (by omega) hc (by omega) (by omega) (by omega)) mb_0 rfl rfl (by decide) rfl rfl (Nat.le_of_ble_eq_true rfl) (fun z57 s57 q57 => ?_)
          obtain ⟨rfl, rfl⟩ := q57
          refine fm_iadd dX9_rest_60 ?_
          refine fm_ist5 rfl dX9_rest_61 ?_
          refine fm_ild5 dX9_rest_63 ?_
          refine fm_ild3 dX9_rest_65 ?_
          refine fm_icmp_ge (⟨by omega, by omega⟩) (⟨by omega, by omega⟩) 74 dX9_rest_66 (by decide) (fun h66 => ?_) (fun h66 => ?_)
          · refine fm_ild3 dX9_rest_74 ?_
            refine fm_ist3 rfl dX9_rest_75 ?_
            refine fm_inc4 rfl dX9_rest_76 ?_
            refine fm_goto 6 dX9_rest_79 (by decide) ?_
            refine ih (z + 1) _ _ (by omega) (by omega) ?_
            rw [e1, bf]
            first
              | (rw [if_pos ⟨hB_t.mpr (by omega), by omega⟩]; simp only; omega)
              | (rw [if_neg (fun q => by have := hB_t.mp q.1; omega)]; exact hb)
          · refine fm_ild5 dX9_rest_69 ?_
            refine fm_goto 75 dX9_rest_71 (by decide) ?_
            refine fm_ist3 rfl dX9_rest_75 ?_
            refine fm_inc4 rfl dX9_rest_76 ?_
            refine fm_goto 6 dX9_rest_79 (by decide) ?_
            refine ih (z + 1) _ _ (by omega) (by omega) ?_
            rw [e1, bf]
            first
              | (rw [if_pos ⟨hB_t.mpr (by omega), by omega⟩]; simp only; omega)
              | (rw [if_neg (fun q => by have := hB_t.mp q.1; omega)]; exact hb)
set_option maxRecDepth 20000 in
set_option maxHeartbeats 4000000 in
theorem k_X9_rest {ω : fm_O} {σ : fm_Mem} {μ : fm_Mem} (hi : fj μ) (g : sgm μ σ) {p : Int} (hp : 0 ≤ p ∧ p < μ 1 6) {c : Int} (hc : 0 ≤ c ∧ c ≤ 6) (mc : mayP μ p.toNat c.toNat) (hr : p + 1 < μ 1 6 → ∀ d : Nat, d < 7 → mayP μ (p + 1).toNat d → σ 19 (7 * (p + 1).toNat + d) = prc μ (p + 1).toNat d) : fm_Met km ω yX9_rest cX9_rest 6 (some .int) (fm_rm 2) [fm_r ω 0, fm_I p, fm_I c] σ (fm_pI fun z σ' => z = (if p + 1 < μ 1 6 then mv μ (p + 1).toNat c.toNat else 0) ∧ σ = σ') := by
  refine fm_start (by decide) rfl (Nat.le_of_ble_eq_true rfl) [some (fm_r ω 0), some (fm_I p), some (fm_I c), none, none, none] rfl (fun Γ => ?_)
  have hf := hi.fi
  have b0 := hf.1
  have b6 := hf.2.1 6 (by omega)
  have m : ∀ k j, k < 16 → σ k j = μ k j := g.1
  by_cases hlt : p + 1 < μ 1 6
  · refine fm_ldc (n := 99999) ck_X9_122 (by decide) dX9_rest_0 ?_
    refine fm_ist3 rfl dX9_rest_2 ?_
    refine fm_iconst dX9_rest_3 ?_
    refine fm_ist4 rfl dX9_rest_4 ?_
    exact l_rest hi g (by omega) hc mc hr 7 0 99999 _ (by omega) (by omega) rfl
  refine fm_ldc (n := 99999) ck_X9_122 (by decide) dX9_rest_0 ?_
  refine fm_ist3 rfl dX9_rest_2 ?_
  refine fm_iconst dX9_rest_3 ?_
  refine fm_ist4 rfl dX9_rest_4 ?_
  refine fm_ild4 dX9_rest_6 ?_
  refine fm_bipush (by decide) dX9_rest_8 ?_
  refine fm_icmp_gt (⟨by omega, by omega⟩) (⟨by omega, by omega⟩) 82 dX9_rest_10 (by decide) (fun h10 => ?_) (fun h10 => ?_)
  · exfalso; omega
  · refine fm_ild1 dX9_rest_13 ?_
    refine fm_iconst dX9_rest_14 ?_
    refine fm_iadd dX9_rest_15 ?_
    refine fm_ald0 dX9_rest_16 ?_
    refine gr_8_1 dX9_rest_17 fd_X9_7 ?_
    refine fm_bipush (by decide) dX9_rest_20 ?_
    refine fm_iald dX9_rest_22 ma_1 (by omega) (by omega) ?_
    rw [show (6 : Int).toNat = 6 from rfl, m 1 6 (by omega)]
    refine fm_icmp_ge (⟨by omega, by omega⟩) (⟨by omega, by omega⟩) 82 dX9_rest_23 (by decide) (fun h23 => ?_) (fun h23 => ?_)
    · refine fm_ild1 dX9_rest_82 ?_
      refine fm_iconst dX9_rest_83 ?_
      refine fm_iadd dX9_rest_84 ?_
      refine fm_ald0 dX9_rest_85 ?_
      refine gr_8_1 dX9_rest_86 fd_X9_7 ?_
      refine fm_bipush (by decide) dX9_rest_89 ?_
      refine fm_iald dX9_rest_91 ma_1 (by omega) (by omega) ?_
      rw [show (6 : Int).toNat = 6 from rfl, m 1 6 (by omega)]
      refine fm_icmp_ne (⟨by omega, by omega⟩) (⟨by omega, by omega⟩) 99 dX9_rest_92 (by decide) (fun h92 => ?_) (fun h92 => ?_)
      · exfalso; omega
      · refine fm_iconst dX9_rest_95 ?_
        refine fm_goto 100 dX9_rest_96 (by decide) ?_
        exact fm_iretI dX9_rest_100 rfl ⟨by rw [if_neg (by omega)], rfl⟩
    · exfalso; omega
set_option maxRecDepth 20000 in
set_option maxHeartbeats 4000000 in
theorem l_w1 {ω : fm_O} {σ : fm_Mem} {Γ : fm_G} {P : Option Value → fm_Mem → Prop} {μ : fm_Mem} (hi : fj μ) (g : sgm μ σ) {p : Int} (hp : 0 ≤ p ∧ p < μ 1 6) (hK : ∀ (τ : fm_Mem) (o3 : Option Value), fr8 σ τ → (∀ q d : Nat, (q : Int) < μ 1 6 → d < 7 → p ≤ (q : Int) → mayP μ q d → τ 19 (7 * q + d) = prc μ q d) → fm_W km ω Γ (cX9_wholes, RX9, fm_rm 3, 7, (some .int)) P τ 72 [some (fm_r ω 0), some (fm_I (μ 1 6)), some (fm_I p), o3, none, none, none] []) : ∀ (d : Nat) (s : Int) (τ : fm_Mem), 0 ≤ s → s + d = 7 → fr8 σ τ → (∀ q d : Nat, (q : Int) < μ 1 6 → d < 7 → (p < (q : Int) ∨ (p = (q : Int) ∧ (d : Int) < s)) → mayP μ q d → τ 19 (7 * q + d) = prc μ q d) → fm_W km ω Γ (cX9_wholes, RX9, fm_rm 3, 7, (some .int)) P τ 22 [some (fm_r ω 0), some (fm_I (μ 1 6)), some (fm_I p), some (fm_I s), none, none, none] [] := by
  have hf := hi.fi
  have b6 := hf.2.1 6 (by omega)
  intro d
  induction d with
  | zero =>
    intro s τ h0 hz hr ht
    refine fm_ild3 dX9_wholes_22 ?_
    refine fm_bipush (by decide) dX9_wholes_23 ?_
    refine fm_icmp_gt (⟨by omega, by omega⟩) (⟨by omega, by omega⟩) 72 dX9_wholes_25 (by decide) (fun h25 => ?_) (fun h25 => ?_)
    · exact hK τ _ hr (fun q d h1 h2 h3 h4 => ht q d h1 h2 (by omega) h4)
    · exfalso; omega
  | succ d ih =>
    intro s τ h0 hz hr ht
    have gt := g.fr8 hr
    have J : ∀ v : Int, (mayP μ p.toNat s.toNat → v = prc μ p.toNat s.toNat) → fm_W km ω Γ (cX9_wholes, RX9, fm_rm 3, 7, (some .int)) P τ 65 [some (fm_r ω 0), some (fm_I (μ 1 6)), some (fm_I p), some (fm_I s), none, none, none] [fm_I v, fm_I (7 * p + s), fm_r ω 19] := by
      intro v hv
      refine fm_iast dX9_wholes_65 ma_19 (by omega) (by omega) ?_
      refine fm_inc3 rfl dX9_wholes_66 ?_
      refine fm_goto 22 dX9_wholes_69 (by decide) ?_
      refine ih (s + 1) _ (by omega) (by omega) (hr.up (by omega)) (fun q d h1 h2 h3 h4 => ?_)
      by_cases e : 7 * q + d = (7 * p + s).toNat
      · have e3 : q = p.toNat := by omega
        have e2 : d = s.toNat := by omega
        rw [e, fm_up_eq]
        subst e3 e2
        exact hv h4
      · rw [fm_up_nj e]; exact ht q d h1 h2 (by omega) h4
    refine fm_ild3 dX9_wholes_22 ?_
    refine fm_bipush (by decide) dX9_wholes_23 ?_
    refine fm_icmp_gt (⟨by omega, by omega⟩) (⟨by omega, by omega⟩) 72 dX9_wholes_25 (by decide) (fun h25 => ?_) (fun h25 => ?_)
    · exfalso; omega
    · refine fm_ald0 dX9_wholes_28 ?_
      refine gr_8_22 dX9_wholes_29 fd_X9_64 ?_
      refine fm_bipush (by decide) dX9_wholes_32 ?_
      refine fm_ild2 dX9_wholes_34 ?_
      refine fm_imul dX9_wholes_35 ?_
      refine fm_ild3 dX9_wholes_36 ?_
      refine fm_iadd dX9_wholes_37 ?_
      refine fm_ald0 dX9_wholes_38 ?_
      refine fm_ild2 dX9_wholes_39 ?_
      refine fm_ild3 dX9_wholes_40 ?_
      refine fm_cvI dX9_wholes_41 cl_X9_123 (k_X9_may hi gt hp (by omega)) mb_0 rfl rfl (by decide) rfl rfl (Nat.le_of_ble_eq_true rfl) (fun z41 s41 q41 => ?_)
      obtain ⟨q41, rfl⟩ := q41
      refine fm_if_eq (⟨by omega, by omega⟩) 63 dX9_wholes_44 (by decide) (fun h44 => ?_) (fun h44 => ?_)
      · refine fm_ldc (n := 99999) ck_X9_122 (by decide) dX9_wholes_63 ?_
        refine J _ (fun hm => ?_)
        first
          | (exfalso; omega)
          | (by_cases e : p + 1 < μ 1 6
             · rw [if_pos e, prc_s (by omega), show (p + 1).toNat = p.toNat + 1 by omega]
             · rw [if_neg e, prc_e (by omega)]; omega)
      · refine fm_ald0 dX9_wholes_47 ?_
        refine fm_ild2 dX9_wholes_48 ?_
        refine fm_ild3 dX9_wholes_49 ?_
        refine fm_cvI dX9_wholes_50 cl_X9_130 (k_X9_own hi gt hp (by omega) (by omega)) mb_0 rfl rfl (by decide) rfl rfl (Nat.le_of_ble_eq_true rfl) (fun z50 s50 q50 => ?_)
        obtain ⟨rfl, rfl⟩ := q50
        refine fm_ald0 dX9_wholes_53 ?_
        refine fm_ild2 dX9_wholes_54 ?_
        refine fm_ild3 dX9_wholes_55 ?_
        refine fm_cvI dX9_wholes_56 cl_X9_133 (k_X9_rest hi gt hp (by omega) (by omega) (fun h9 d h1 h2 => ht (p + 1).toNat d (by omega) h1 (by omega) h2)) mb_0 rfl rfl (by decide) rfl rfl (Nat.le_of_ble_eq_true rfl) (fun z56 s56 q56 => ?_)
        obtain ⟨rfl, rfl⟩ := q56
        refine fm_iadd dX9_wholes_59 ?_
        refine fm_goto 65 dX9_wholes_60 (by decide) ?_
        refine J _ (fun hm => ?_)
        first
          | (exfalso; omega)
          | (by_cases e : p + 1 < μ 1 6
             · rw [if_pos e, prc_s (by omega), show (p + 1).toNat = p.toNat + 1 by omega]
             · rw [if_neg e, prc_e (by omega)]; omega)
set_option maxRecDepth 20000 in
set_option maxHeartbeats 4000000 in
theorem l_w2 {ω : fm_O} {σ : fm_Mem} {Γ : fm_G} {P : Option Value → fm_Mem → Prop} {μ : fm_Mem} (hi : fj μ) (g : sgm μ σ) (hK : ∀ (τ : fm_Mem) (o2 o3 : Option Value), fr8 σ τ → (∀ q d : Nat, (q : Int) < μ 1 6 → d < 7 → True → mayP μ q d → τ 19 (7 * q + d) = prc μ q d) → fm_W km ω Γ (cX9_wholes, RX9, fm_rm 3, 7, (some .int)) P τ 78 [some (fm_r ω 0), some (fm_I (μ 1 6)), o2, o3, none, none, none] []) : ∀ (d : Nat) (p : Int) (τ : fm_Mem) (o3 : Option Value), p + 1 = d → p < μ 1 6 → fr8 σ τ → (∀ q d : Nat, (q : Int) < μ 1 6 → d < 7 → p < (q : Int) → mayP μ q d → τ 19 (7 * q + d) = prc μ q d) → fm_W km ω Γ (cX9_wholes, RX9, fm_rm 3, 7, (some .int)) P τ 16 [some (fm_r ω 0), some (fm_I (μ 1 6)), some (fm_I p), o3, none, none, none] [] := by
  have hf := hi.fi
  have b6 := hf.2.1 6 (by omega)
  intro d
  induction d with
  | zero =>
    intro p τ o3 hd hp hr ht
    refine fm_ild2 dX9_wholes_16 ?_
    refine fm_if_lt (⟨by omega, by omega⟩) 78 dX9_wholes_17 (by decide) (fun h17 => ?_) (fun h17 => ?_)
    · exact hK τ _ _ hr (fun q d h1 h2 _ h4 => ht q d h1 h2 (by omega) h4)
    · exfalso; omega
  | succ d ih =>
    intro p τ o3 hd hp hr ht
    have hK2 : ∀ (τ2 : fm_Mem) (o3 : Option Value), fr8 τ τ2 → (∀ q d : Nat, (q : Int) < μ 1 6 → d < 7 → p ≤ (q : Int) → mayP μ q d → τ2 19 (7 * q + d) = prc μ q d) → fm_W km ω Γ (cX9_wholes, RX9, fm_rm 3, 7, (some .int)) P τ2 72 [some (fm_r ω 0), some (fm_I (μ 1 6)), some (fm_I p), o3, none, none, none] [] := by
      intro τ2 o3 hr2 ht2
      refine fm_inc2 rfl dX9_wholes_72 ?_
      refine fm_goto 16 dX9_wholes_75 (by decide) ?_
      exact ih (p + -1) τ2 _ (by omega) (by omega) (hr.trans hr2) (fun q d h1 h2 h3 h4 => ht2 q d h1 h2 (by omega) h4)
    refine fm_ild2 dX9_wholes_16 ?_
    refine fm_if_lt (⟨by omega, by omega⟩) 78 dX9_wholes_17 (by decide) (fun h17 => ?_) (fun h17 => ?_)
    · exfalso; omega
    · refine fm_iconst dX9_wholes_20 ?_
      refine fm_ist3 rfl dX9_wholes_21 ?_
      exact l_w1 hi (g.fr8 hr) (by omega) hK2 7 0 τ (by omega) (by omega) fr8.rfl (fun q d h1 h2 h3 h4 => ht q d h1 h2 (by omega) h4)
set_option maxRecDepth 20000 in
set_option maxHeartbeats 4000000 in
theorem l_w3 {ω : fm_O} {σ σ1 : fm_Mem} {Γ : fm_G} {P : Option Value → fm_Mem → Prop} {μ : fm_Mem} (hi : fj μ) (g : sgm μ σ) {p : Int} (hp : 0 ≤ p ∧ p < μ 1 6) {all : Int} (hrw : (∀ q d : Nat, (q : Int) < μ 1 6 → d < 7 → True → mayP μ q d → σ 19 (7 * q + d) = prc μ q d)) (h1 : ∀ k x, k ≠ 20 → σ1 k x = σ k x) (hs : ∀ q : Nat, (q : Int) < p → σ1 20 q = srcs μ q) (hK : ∀ (τ : fm_Mem) (o5 o6 : Option Value), (∀ k x, k ≠ 20 → τ k x = σ k x) → (∀ q : Nat, (q : Int) ≤ p → τ 20 q = srcs μ q) → fm_W km ω Γ (cX9_wholes, RX9, fm_rm 3, 7, (some .int)) P τ 181 [some (fm_r ω 0), some (fm_I (μ 1 6)), some (fm_I all), some (fm_I p), some (fm_I (mv μ p.toNat (ahd μ p.toNat))), o5, o6] []) : ∀ (d : Nat) (z b : Int) (τ : fm_Mem) (o6 : Option Value), 0 ≤ z → z + d = 7 → b = (bf (hB μ p.toNat) (fv μ p.toNat (ahd μ p.toNat)) 99999 (σ1 20 p.toNat).toNat z.toNat).1 → (∀ k x, k ≠ 20 → τ k x = σ k x) → (∀ q : Nat, (q : Int) < p → τ 20 q = srcs μ q) → ((bf (hB μ p.toNat) (fv μ p.toNat (ahd μ p.toNat)) 99999 (σ1 20 p.toNat).toNat z.toNat).1 = 99999 ∨ τ 20 p.toNat = ((bf (hB μ p.toNat) (fv μ p.toNat (ahd μ p.toNat)) 99999 (σ1 20 p.toNat).toNat z.toNat).2 : Int)) → fm_W km ω Γ (cX9_wholes, RX9, fm_rm 3, 7, (some .int)) P τ 94 [some (fm_r ω 0), some (fm_I (μ 1 6)), some (fm_I all), some (fm_I p), some (fm_I b), some (fm_I z), o6] [] := by
  have hf := hi.fi
  have b6 := hf.2.1 6 (by omega)
  obtain ⟨d1, d2⟩ := ahd_ok hf p.toNat
  obtain ⟨a1, a2, a3⟩ := am_ok hf p.toNat (ahd μ p.toNat)
  intro d
  induction d with
  | zero =>
    intro z b τ o6 h0 hz hb hr hq hp20
    have e7 := bf_init hf p.toNat (ahd μ p.toNat) 99999 (σ1 20 p.toNat).toNat (by omega)
    rw [show z.toNat = 7 by omega, e7] at hb hp20
    have e8 := fv_b hf p.toNat (ahd μ p.toNat) (am μ p.toNat (ahd μ p.toNat))
    simp only at hb hp20
    subst hb
    refine fm_ild5 dX9_wholes_94 ?_
    refine fm_bipush (by decide) dX9_wholes_96 ?_
    refine fm_icmp_gt (⟨by omega, by omega⟩) (⟨by omega, by omega⟩) 181 dX9_wholes_98 (by decide) (fun h98 => ?_) (fun h98 => ?_)
    · refine hK τ _ _ hr (fun q hq2 => ?_)
      by_cases e : q = p.toNat
      · rw [e, srcs_a]
        rcases hp20 with e9 | e9
        · omega
        · exact e9
      · exact hq q (by omega)
    · exfalso; omega
  | succ d ih =>
    intro z b τ o6 h0 hz hb hr hq hp20
    have gt : sgm μ τ := ⟨fun k j hk => by rw [hr k j (by omega)]; exact g.1 k j hk, fun c p hc hp => by rw [hr _ _ (by omega)]; exact g.2 c p hc hp⟩
    have e1 : (z + 1).toNat = z.toNat + 1 := by omega
    have y1 := fv_b hf p.toNat (ahd μ p.toNat) z.toNat
    have y2 := jn_b hf p.toNat (ahd μ p.toNat) z.toNat
    have y3 := prc_b hf p.toNat z.toNat
    have y4 : fv μ p.toNat (ahd μ p.toNat) z.toNat = jn μ p.toNat (ahd μ p.toNat) z.toNat + prc μ p.toNat z.toNat := rfl
    have y5 := (bf_le (h := hB μ p.toNat) (f := fv μ p.toNat (ahd μ p.toNat)) (b0 := 99999) (s0 := (σ1 20 p.toNat).toNat) z.toNat).1
    have y6 := bf_pos (h := hB μ p.toNat) (f := fv μ p.toNat (ahd μ p.toNat)) (b0 := 99999) (s0 := (σ1 20 p.toNat).toNat) (fun s => (fv_b hf p.toNat (ahd μ p.toNat) s).1) (by omega) z.toNat
    have ep : mayP μ p.toNat z.toNat → τ 19 (7 * p + z).toNat = prc μ p.toNat z.toNat := fun q => by rw [hr _ _ (by omega), ← hrw p.toNat z.toNat (by omega) (by omega) trivial q]; congr 1; omega
    have j0 : p = 0 → jn μ p.toNat (ahd μ p.toNat) z.toNat = 0 := fun q => by unfold jn; rw [if_pos (by omega)]
    have ea : p ≠ 0 → τ 20 (p - 1).toNat = (ahd μ p.toNat : Int) := fun q => by rw [hq _ (by omega)]; unfold ahd; rw [if_neg (by omega), show (p - 1).toNat = p.toNat - 1 by omega]
    have J : ∀ v : Int, (mayP μ p.toNat z.toNat → v = fv μ p.toNat (ahd μ p.toNat) z.toNat) → (¬ mayP μ p.toNat z.toNat → v = 99999) → ∀ o6 : Option Value, fm_W km ω Γ (cX9_wholes, RX9, fm_rm 3, 7, (some .int)) P τ 154 [some (fm_r ω 0), some (fm_I (μ 1 6)), some (fm_I all), some (fm_I p), some (fm_I b), some (fm_I z), o6] [fm_I v] := by
      intro v hv hv2 o6
      refine fm_ist6 rfl dX9_wholes_154 ?_
      refine fm_ild6 dX9_wholes_156 ?_
      refine fm_ild4 dX9_wholes_158 ?_
      refine fm_icmp_ge (⟨by omega, by omega⟩) (⟨by omega, by omega⟩) 175 dX9_wholes_160 (by decide) (fun h160 => ?_) (fun h160 => ?_)
      · refine fm_inc5 rfl dX9_wholes_175 ?_
        refine fm_goto 94 dX9_wholes_178 (by decide) ?_
        have q9 : (hB μ p.toNat z.toNat = true ∧ fv μ p.toNat (ahd μ p.toNat) z.toNat < (bf (hB μ p.toNat) (fv μ p.toNat (ahd μ p.toNat)) 99999 (σ1 20 p.toNat).toNat z.toNat).1) ↔ (mayP μ p.toNat z.toNat ∧ fv μ p.toNat (ahd μ p.toNat) z.toNat < b) := by rw [hB_t, hb]
        first
          | (refine ih (z + 1) _ _ _ (by omega) (by omega) ?_ (fun k x q => by rw [fm_up_ne q]; exact hr k x q) (fun q hq2 => by rw [fm_up_nj (by omega)]; exact hq q hq2) (Or.inr ?_)
             · rw [e1, bf, if_pos (q9.mpr (by omega))]
               simp only
               omega
             · rw [e1, bf, if_pos (q9.mpr (by omega)), fm_up_eq]
               simp only
               omega)
          | (refine ih (z + 1) _ _ _ (by omega) (by omega) ?_ hr hq ?_
             · rw [e1, bf, if_neg (fun q => by have := q9.mp q; omega)]
               exact hb
             · rw [e1, bf, if_neg (fun q => by have := q9.mp q; omega)]
               exact hp20)
      · refine fm_ild6 dX9_wholes_163 ?_
        refine fm_ist4 rfl dX9_wholes_165 ?_
        refine fm_ald0 dX9_wholes_167 ?_
        refine gr_8_23 dX9_wholes_168 fd_X9_67 ?_
        refine fm_ild3 dX9_wholes_171 ?_
        refine fm_ild5 dX9_wholes_172 ?_
        refine fm_iast dX9_wholes_174 ma_20 (by omega) (by omega) ?_
        refine fm_inc5 rfl dX9_wholes_175 ?_
        refine fm_goto 94 dX9_wholes_178 (by decide) ?_
        have q9 : (hB μ p.toNat z.toNat = true ∧ fv μ p.toNat (ahd μ p.toNat) z.toNat < (bf (hB μ p.toNat) (fv μ p.toNat (ahd μ p.toNat)) 99999 (σ1 20 p.toNat).toNat z.toNat).1) ↔ (mayP μ p.toNat z.toNat ∧ fv μ p.toNat (ahd μ p.toNat) z.toNat < b) := by rw [hB_t, hb]
        first
          | (refine ih (z + 1) _ _ _ (by omega) (by omega) ?_ (fun k x q => by rw [fm_up_ne q]; exact hr k x q) (fun q hq2 => by rw [fm_up_nj (by omega)]; exact hq q hq2) (Or.inr ?_)
             · rw [e1, bf, if_pos (q9.mpr (by omega))]
               simp only
               omega
             · rw [e1, bf, if_pos (q9.mpr (by omega)), fm_up_eq]
               simp only
               omega)
          | (refine ih (z + 1) _ _ _ (by omega) (by omega) ?_ hr hq ?_
             · rw [e1, bf, if_neg (fun q => by have := q9.mp q; omega)]
               exact hb
             · rw [e1, bf, if_neg (fun q => by have := q9.mp q; omega)]
               exact hp20)
    refine fm_ild5 dX9_wholes_94 ?_
    refine fm_bipush (by decide) dX9_wholes_96 ?_
    refine fm_icmp_gt (⟨by omega, by omega⟩) (⟨by omega, by omega⟩) 181 dX9_wholes_98 (by decide) (fun h98 => ?_) (fun h98 => ?_)
    · exfalso; omega
    · refine fm_ald0 dX9_wholes_101 ?_
      refine fm_ild3 dX9_wholes_102 ?_
      refine fm_ild5 dX9_wholes_103 ?_
      refine fm_cvI dX9_wholes_105 cl_X9_123 (k_X9_may hi gt hp (by omega)) mb_0 rfl rfl (by decide) rfl rfl (Nat.le_of_ble_eq_true rfl) (fun z105 s105 q105 => ?_)
      obtain ⟨q105, rfl⟩ := q105
      refine fm_if_eq (⟨by omega, by omega⟩) 152 dX9_wholes_108 (by decide) (fun h108 => ?_) (fun h108 => ?_)
      · refine fm_ldc (n := 99999) ck_X9_122 (by decide) dX9_wholes_152 ?_
        exact J _ (by omega) (by omega) _
      · refine fm_ald0 dX9_wholes_111 ?_
        refine gr_8_22 dX9_wholes_112 fd_X9_64 ?_
        refine fm_bipush (by decide) dX9_wholes_115 ?_
        refine fm_ild3 dX9_wholes_117 ?_
        refine fm_imul dX9_wholes_118 ?_
        refine fm_ild5 dX9_wholes_119 ?_
        refine fm_iadd dX9_wholes_121 ?_
        refine fm_iald dX9_wholes_122 ma_19 (by omega) (by omega) ?_
        rw [ep (by omega)]
        refine fm_ild3 dX9_wholes_123 ?_
        refine fm_if_ne (⟨by omega, by omega⟩) 131 dX9_wholes_124 (by decide) (fun h124 => ?_) (fun h124 => ?_)
        · refine fm_ald0 dX9_wholes_131 ?_
          refine fm_ild3 dX9_wholes_132 ?_
          refine fm_iconst dX9_wholes_133 ?_
          refine fm_isub dX9_wholes_134 ?_
          refine fm_ald0 dX9_wholes_135 ?_
          refine gr_8_23 dX9_wholes_136 fd_X9_67 ?_
          refine fm_ild3 dX9_wholes_139 ?_
          refine fm_iconst dX9_wholes_140 ?_
          refine fm_isub dX9_wholes_141 ?_
          refine fm_iald dX9_wholes_142 ma_20 (by omega) (by omega) ?_
          rw [ea (by omega)]
          refine fm_ild5 dX9_wholes_143 ?_
          refine fm_cvI dX9_wholes_145 cl_X9_126 (k_X9_between hi gt (p := p - 1) (by omega) (by omega) (by omega) (by rw [Int.toNat_natCast, show (p - 1).toNat = p.toNat - 1 by omega]; omega) (by rw [show p - 1 + 1 = p by omega]; omega)) mb_0 rfl rfl (by decide) rfl rfl (Nat.le_of_ble_eq_true rfl) (fun z145 s145 q145 => ?_)
          obtain ⟨rfl, rfl⟩ := q145
          rw [show p - 1 + 1 = p by omega, Int.toNat_natCast]
          refine fm_iadd dX9_wholes_148 ?_
          refine fm_goto 154 dX9_wholes_149 (by decide) ?_
          exact J _ (by omega) (by omega) _
        · refine fm_iconst dX9_wholes_127 ?_
          refine fm_goto 148 dX9_wholes_128 (by decide) ?_
          refine fm_iadd dX9_wholes_148 ?_
          refine fm_goto 154 dX9_wholes_149 (by decide) ?_
          exact J _ (by omega) (by omega) _
set_option maxRecDepth 20000 in
set_option maxHeartbeats 4000000 in
theorem l_w4 {ω : fm_O} {σ : fm_Mem} {Γ : fm_G} {μ : fm_Mem} (hi : fj μ) (g : sgm μ σ) (hrw : (∀ q d : Nat, (q : Int) < μ 1 6 → d < 7 → True → mayP μ q d → σ 19 (7 * q + d) = prc μ q d)) : ∀ (d : Nat) (p all : Int) (τ : fm_Mem) (o4 o5 o6 : Option Value), 0 ≤ p → p + d = μ 1 6 → (p = 0 → all = 0) → (0 < p → all = tot μ) → (∀ k x, k ≠ 20 → τ k x = σ k x) → (∀ q : Nat, (q : Int) < p → τ 20 q = srcs μ q) → fm_W km ω Γ (cX9_wholes, RX9, fm_rm 3, 7, (some .int)) (fm_pI fun z σ' => z = tot μ ∧ sgm μ σ' ∧ ∀ q : Nat, (q : Int) < μ 1 6 → σ' 20 q = srcs μ q) τ 82 [some (fm_r ω 0), some (fm_I (μ 1 6)), some (fm_I all), some (fm_I p), o4, o5, o6] [] := by
  have hf := hi.fi
  have b6 := hf.2.1 6 (by omega)
  intro d
  induction d with
  | zero =>
    intro p all τ o4 o5 o6 h0 hp ha1 ha2 hr hq
    have gt : sgm μ τ := ⟨fun k j hk => by rw [hr k j (by omega)]; exact g.1 k j hk, fun c p hc hp => by rw [hr _ _ (by omega)]; exact g.2 c p hc hp⟩
    have hall : all = tot μ := by
      by_cases e : p = 0
      · rw [ha1 e]; unfold tot; rw [if_pos (by omega)]
      · exact ha2 (by omega)
    refine fm_ild3 dX9_wholes_82 ?_
    refine fm_ild1 dX9_wholes_83 ?_
    refine fm_icmp_ge (⟨by omega, by omega⟩) (⟨by omega, by omega⟩) 198 dX9_wholes_84 (by decide) (fun h84 => ?_) (fun h84 => ?_)
    · refine fm_ild2 dX9_wholes_198 ?_
      exact fm_iretI dX9_wholes_199 rfl ⟨hall, gt, fun q hq2 => hq q (by omega)⟩
    · exfalso; omega
  | succ d ih =>
    intro p all τ o4 o5 o6 h0 hp ha1 ha2 hr hq
    have hK : ∀ (τ2 : fm_Mem) (o5 o6 : Option Value), (∀ k x, k ≠ 20 → τ2 k x = σ k x) → (∀ q : Nat, (q : Int) ≤ p → τ2 20 q = srcs μ q) → fm_W km ω Γ (cX9_wholes, RX9, fm_rm 3, 7, (some .int)) (fm_pI fun z σ' => z = tot μ ∧ sgm μ σ' ∧ ∀ q : Nat, (q : Int) < μ 1 6 → σ' 20 q = srcs μ q) τ2 181 [some (fm_r ω 0), some (fm_I (μ 1 6)), some (fm_I all), some (fm_I p), some (fm_I (mv μ p.toNat (ahd μ p.toNat))), o5, o6] [] := by
      intro τ2 o5 o6 hr2 hq2
      refine fm_ild3 dX9_wholes_181 ?_
      refine fm_if_ne (⟨by omega, by omega⟩) 190 dX9_wholes_182 (by decide) (fun h182 => ?_) (fun h182 => ?_)
      · refine fm_ild2 dX9_wholes_190 ?_
        refine fm_ist2 rfl dX9_wholes_191 ?_
        refine fm_inc3 rfl dX9_wholes_192 ?_
        refine fm_goto 82 dX9_wholes_195 (by decide) ?_
        first
          | (refine ih (p + 1) _ τ2 _ _ _ (by omega) (by omega) (fun q => by omega) (fun q => ?_) hr2 (fun q h9 => hq2 q (by omega))
             unfold tot
             rw [if_neg (by omega), show p.toNat = 0 by omega]
             rfl)
          | exact ih (p + 1) _ τ2 _ _ _ (by omega) (by omega) (fun q => by omega) (fun q => ha2 (by omega)) hr2 (fun q h9 => hq2 q (by omega))
      · refine fm_ild4 dX9_wholes_185 ?_
        refine fm_goto 191 dX9_wholes_187 (by decide) ?_
        refine fm_ist2 rfl dX9_wholes_191 ?_
        refine fm_inc3 rfl dX9_wholes_192 ?_
        refine fm_goto 82 dX9_wholes_195 (by decide) ?_
        first
          | (refine ih (p + 1) _ τ2 _ _ _ (by omega) (by omega) (fun q => by omega) (fun q => ?_) hr2 (fun q h9 => hq2 q (by omega))
             unfold tot
             rw [if_neg (by omega), show p.toNat = 0 by omega]
             rfl)
          | exact ih (p + 1) _ τ2 _ _ _ (by omega) (by omega) (fun q => by omega) (fun q => ha2 (by omega)) hr2 (fun q h9 => hq2 q (by omega))
    refine fm_ild3 dX9_wholes_82 ?_
    refine fm_ild1 dX9_wholes_83 ?_
    refine fm_icmp_ge (⟨by omega, by omega⟩) (⟨by omega, by omega⟩) 198 dX9_wholes_84 (by decide) (fun h84 => ?_) (fun h84 => ?_)
    · exfalso; omega
    · refine fm_ldc (n := 99999) ck_X9_122 (by decide) dX9_wholes_87 ?_
      refine fm_ist4 rfl dX9_wholes_89 ?_
      refine fm_iconst dX9_wholes_91 ?_
      refine fm_ist5 rfl dX9_wholes_92 ?_
      exact l_w3 hi g (by omega) hrw hr hq hK 7 0 99999 τ _ (by omega) (by omega) rfl hr hq (Or.inl rfl)
set_option maxRecDepth 20000 in
set_option maxHeartbeats 4000000 in
theorem k_X9_wholes {ω : fm_O} {σ : fm_Mem} (hi : fj σ) : fm_Met km ω yX9_wholes cX9_wholes 7 (some .int) (fm_rm 3) [fm_r ω 0] σ (fm_pI fun z σ' => z = tot σ ∧ sgm σ σ' ∧ ∀ q : Nat, (q : Int) < σ 1 6 → σ' 20 q = srcs σ q) := by
  refine fm_start (by decide) rfl (Nat.le_of_ble_eq_true rfl) [some (fm_r ω 0), none, none, none, none, none, none] rfl (fun Γ => ?_)
  have hf := hi.fi
  have b6 := hf.2.1 6 (by omega)
  obtain ⟨μ, em⟩ : ∃ μ, μ = σ := ⟨_, rfl⟩
  rw [← em] at hi b6 hf ⊢
  refine fm_ald0 dX9_wholes_0 ?_
  refine fm_cvN dX9_wholes_1 cl_X9_112 (k_X9_standAll hi) mb_0 rfl rfl (by decide) rfl rfl (Nat.le_of_ble_eq_true rfl) (fun s1 q1 => ?_)
  have g : sgm μ s1 := ⟨q1.1.sam, q1.2⟩
  refine fm_ald0 dX9_wholes_4 ?_
  refine gr_8_1 dX9_wholes_5 fd_X9_7 ?_
  refine fm_bipush (by decide) dX9_wholes_8 ?_
  refine fm_iald dX9_wholes_10 ma_1 (by omega) (by omega) ?_
  rw [show (6 : Int).toNat = 6 from rfl, g.1 1 6 (by omega)]
  refine fm_ist1 rfl dX9_wholes_11 ?_
  refine fm_ild1 dX9_wholes_12 ?_
  refine fm_iconst dX9_wholes_13 ?_
  refine fm_isub dX9_wholes_14 ?_
  refine fm_ist2 rfl dX9_wholes_15 ?_
  refine l_w2 hi g (fun τ o2 o3 hr ht => ?_) (μ 1 6).toNat (μ 1 6 - 1) s1 _ (by omega) (by omega) fr8.rfl (fun q d h1 h2 h3 h4 => by omega)
  refine fm_iconst dX9_wholes_78 ?_
  refine fm_ist2 rfl dX9_wholes_79 ?_
  refine fm_iconst dX9_wholes_80 ?_
  refine fm_ist3 rfl dX9_wholes_81 ?_
  exact l_w4 hi (g.fr8 hr) ht (μ 1 6).toNat 0 0 τ _ _ _ (by omega) (by omega) (fun _ => rfl) (fun q => by omega) (fun _ _ _ => rfl) (fun q hq => by omega)
