/-! whole, about, mend, tint: what they answer; the class's side -/
section FML
variable {S : fm_Sh} {ω : fm_O} {Γ : fm_G} {M : fm_M} {P : Option Value → fm_Mem → Prop} {σ : fm_Mem} {pc : Nat} {L : List (Option Value)} {st : List Value}
theorem fm_look {dflt : Int} {ps : Array (Int × Int)} {len : Nat} {x off : Int} (tgt : Nat) (hd : decode M.1 pc = .ok (.lookupswitch dflt ps, len)) (rx : fm_R x) (hp : (ps.toList.zip (ps.toList.drop 1)).all (fun (a, next) => a.1 < next.1) = true) (ho : Op.lookupswitch.offset ps.toList dflt x = off) (ht : (pc : Int) + off = (tgt : Int)) (k : fm_W S ω Γ M P σ tgt L st) : fm_W S ω Γ M P σ pc L (fm_I x :: st) := by
  intro C hL H locs ls hP hS hl
  obtain ⟨hx, hb, -⟩ := id C
  exact lv_lookup hx hb hd hp (by rw [fm_ofI rx.1 rx.2]; exact ho) ht (k C hL H locs ls hP hS hl)
end FML
def sp_whole (μ : fm_Mem) (i : Int) : Int := if ¬ (-1 ≤ i ∧ i < μ 1 6) then -1 else if i < 0 then tot μ else if srcs μ i.toNat = 6 then -4 else (srcs μ i.toNat : Int)
abbrev jd (μ : fm_Mem) (p : Nat) : Prop := 0 < p ∧ μ 5 (p - 1) = μ 5 p ∧ srcs μ (p - 1) ≠ 6 ∧ srcs μ p ≠ 6
abbrev ac (μ : fm_Mem) (t : Int) (p : Nat) : Prop := (t = 0 ∧ srcs μ p = 6) ∨ (t = 1 ∧ jd μ p ∧ srcs μ (p - 1) ≠ srcs μ p) ∨ (t ≠ 0 ∧ t ≠ 1 ∧ jd μ p ∧ cmr μ (p - 1) (srcs μ (p - 1)) ≠ cmr μ p (srcs μ p))
def acn (μ : fm_Mem) (t : Int) : Nat → Int
  | 0 => 0
  | p + 1 => acn μ t p + (if ac μ t p then 1 else 0)
theorem acn_b (μ : fm_Mem) (t : Int) : ∀ p, 0 ≤ acn μ t p ∧ acn μ t p ≤ p
  | 0 => by rw [acn]; omega
  | p + 1 => by
    have := acn_b μ t p
    rw [acn]
    split <;> omega
def sp_about (μ : fm_Mem) (t : Int) : Int := if ¬ inR t 0 2 then -1 else acn μ t (μ 1 6).toNat
def wn (μ : fm_Mem) (p c : Nat) : Int := μ 3 (40 * c + (std μ c p).toNat)
theorem wn_b {μ : fm_Mem} (hf : fi μ) (p c : Nat) : 0 ≤ wn μ p c ∧ wn μ p c ≤ 9 := hf.2.2.2.2.1 _
abbrev mdP (μ : fm_Mem) (p : Nat) : Prop := 0 < p ∧ (p : Int) + 1 < μ 1 6 ∧ srcs μ p ≠ 6 ∧ (μ 5 (p - 1) = μ 5 p ∧ srcs μ (p - 1) = srcs μ p ∧ wn μ (p - 1) (srcs μ p) < wn μ p (srcs μ p)) ∧ (μ 5 (p + 1) = μ 5 p ∧ srcs μ (p + 1) = srcs μ p ∧ wn μ (p + 1) (srcs μ p) < wn μ p (srcs μ p))
def mdv (μ : fm_Mem) (p : Nat) : Int := max (wn μ (p - 1) (srcs μ p)) (wn μ (p + 1) (srcs μ p))
def sp_mend (μ : fm_Mem) (p : Int) : Int × fm_Mem := if ¬ (0 ≤ p ∧ p < μ 1 6) then (-1, μ) else if ¬ mdP μ p.toNat then (-2, μ) else (mdv μ p.toNat, kp μ (40 * (srcs μ p.toNat : Int) + std μ (srcs μ p.toNat) p.toNat) (mdv μ p.toNat))
def ltn (μ : fm_Mem) (c f : Int) : Int := ltint (μ 7) (μ 8) (μ 9) (μ 10) c f (μ 0 7).toNat
theorem ltint_b {a b c d : Nat → Int} {x y : Int} (h : ∀ k, 0 ≤ d k ∧ d k ≤ 9) : ∀ n, 0 ≤ ltint a b c d x y n ∧ ltint a b c d x y n ≤ 9
  | 0 => by rw [ltint]; omega
  | n + 1 => by
    rw [ltint]
    split
    · exact h n
    · exact ltint_b h n
theorem ltn_b {μ : fm_Mem} (hf : fi μ) (c f : Int) : 0 ≤ ltn μ c f ∧ ltn μ c f ≤ 9 := ltint_b (fun k => (hf.2.2.2.2.2.2.2.2.2.2.1 k).2.2.2) _
theorem ltint_cong {a b c d a' b' c' d' : Nat → Int} {x y : Int} : ∀ n, (∀ k, k < n → a k = a' k ∧ b k = b' k ∧ c k = c' k ∧ d k = d' k) → ltint a b c d x y n = ltint a' b' c' d' x y n
  | 0, _ => rfl
  | n + 1, h => by
    obtain ⟨e1, e2, e3, e4⟩ := h n (by omega)
    rw [ltint, ltint, e1, e2, e3, e4, ltint_cong n (fun k hk => h k (by omega))]
def tof (μ : fm_Mem) (p c : Nat) : Int := if std μ c p < 0 then 0 else ltn μ c (std μ c p)
theorem tof_b {μ : fm_Mem} (hf : fi μ) (p c : Nat) : 0 ≤ tof μ p c ∧ tof μ p c ≤ 9 := by
  unfold tof
  split
  · omega
  · exact ltn_b hf _ _
def tlw (μ : fm_Mem) (p : Nat) (b0 : Int) : Nat → Int × Int
  | 0 => (b0, 0)
  | c + 1 => if tof μ p c ≠ 0 ∧ wn μ p c < (tlw μ p b0 c).1 then (wn μ p c, tof μ p c) else tlw μ p b0 c
theorem tlw_two {μ : fm_Mem} (hf : fi μ) (p : Nat) {b0 b1 : Int} (h0 : 9 < b0) (h1 : 9 < b1) : ∀ k, tlw μ p b0 k = tlw μ p b1 k ∨ (tlw μ p b0 k = (b0, 0) ∧ tlw μ p b1 k = (b1, 0))
  | 0 => Or.inr ⟨rfl, rfl⟩
  | k + 1 => by
    have hw := wn_b hf p k
    rcases tlw_two hf p h0 h1 k with e | ⟨e1, e2⟩
    · left; rw [tlw, tlw, e]
    · by_cases c : tof μ p k ≠ 0
      · left
        rw [tlw, tlw, e1, e2, if_pos ⟨c, by simp only; omega⟩, if_pos ⟨c, by simp only; omega⟩]
      · right
        rw [tlw, tlw, if_neg (fun q => c q.1), if_neg (fun q => c q.1)]
        exact ⟨e1, e2⟩
theorem tlw_2 {μ : fm_Mem} (hf : fi μ) (p k : Nat) : (tlw μ p 99 k).2 = (tlw μ p 10 k).2 := by
  rcases tlw_two hf p (b0 := 99) (b1 := 10) (by omega) (by omega) k with e | ⟨e1, e2⟩
  · rw [e]
  · rw [e1, e2]
theorem tlw_b {μ : fm_Mem} (hf : fi μ) (p : Nat) {b0 : Int} (h0 : 0 ≤ b0 ∧ b0 ≤ 99) : ∀ k, (0 ≤ (tlw μ p b0 k).1 ∧ (tlw μ p b0 k).1 ≤ 99) ∧ 0 ≤ (tlw μ p b0 k).2 ∧ (tlw μ p b0 k).2 ≤ 9
  | 0 => by rw [tlw]; simp only; omega
  | k + 1 => by
    rw [tlw]
    have hw := wn_b hf p k
    have ht := tof_b hf p k
    split
    · simp only; omega
    · exact tlw_b hf p h0 k
def otn (μ : fm_Mem) (p : Nat) : Int := if srcs μ p = 6 then 0 else ltn μ (srcs μ p) (std μ (srcs μ p) p)
theorem otn_b {μ : fm_Mem} (hf : fi μ) (p : Nat) : 0 ≤ otn μ p ∧ otn μ p ≤ 9 := by
  unfold otn
  split
  · omega
  · exact ltn_b hf _ _
def sp_tint (μ : fm_Mem) (p : Int) : Int := if ¬ (0 ≤ p ∧ p < μ 1 6) then -1 else if otn μ p.toNat ≠ 0 then otn μ p.toNat else (tlw μ p.toNat 10 (μ 0 0).toNat).2
def sgc (μ τ : fm_Mem) : Prop := sg μ τ ∧ ∀ q : Nat, (q : Int) < μ 1 6 → τ 12 q = srcs μ q
set_option maxRecDepth 20000 in
set_option maxHeartbeats 4000000 in
theorem k_X5_frameOf {ω : fm_O} {σ : fm_Mem} {μ : fm_Mem} (hi : fj μ) (g : sgc μ σ) {p : Int} (hp : 0 ≤ p ∧ p < μ 1 6) (hn : srcs μ p.toNat ≠ 6) : fm_Met kc ω yX5_frameOf cX5_frameOf 2 (some .int) (fm_rm 0) [fm_r ω 9, fm_I p] σ (fm_pI fun z σ' => z = std μ (srcs μ p.toNat) p.toNat ∧ σ = σ') := by
  refine fm_start (by decide) rfl (Nat.le_of_ble_eq_true rfl) [some (fm_r ω 9), some (fm_I p)] rfl (fun Γ => ?_)
  have hf := hi.fi
  have h := g.1.1
  have hw := rel.cw hf h
  have b6 := hf.2.1 6 (by omega)
  have e6 := h.2.1.1
  obtain ⟨s1, s2⟩ := srcs_ok hf p.toNat
  have ec := g.2 p.toNat (by omega)
  have sb := std_b (μ := μ) (c := srcs μ p.toNat) (p := p.toNat) (by omega)
  have cs : srcs μ p.toNat < 6 → 0 ≤ μ 1 (srcs μ p.toNat) ∧ μ 1 (srcs μ p.toNat) ≤ 40 := fun q => hf.2.1 _ (by omega)
  refine fm_ald0 dX5_frameOf_0 ?_
  refine gr_5_4 dX5_frameOf_1 fd_X5_11 ?_
  refine fm_ald0 dX5_frameOf_4 ?_
  refine gr_5_6 dX5_frameOf_5 fd_X5_19 ?_
  refine fm_ild1 dX5_frameOf_8 ?_
  refine fm_iald dX5_frameOf_9 ia_12 (by omega) (by omega) ?_
  rw [ec]
  refine ar_10 (by omega) (by omega) dX5_frameOf_10 ?_
  rw [Int.toNat_natCast]
  refine fm_ild1 dX5_frameOf_11 ?_
  refine fm_iald dX5_frameOf_12 (ia_sd (by omega)) (by omega) (by omega) ?_
  rw [g.1.2 _ _ (by omega) (by omega)]
  exact fm_iretI dX5_frameOf_13 rfl ⟨rfl, rfl⟩
set_option maxRecDepth 20000 in
set_option maxHeartbeats 4000000 in
theorem k_X5_wearOf {ω : fm_O} {σ : fm_Mem} {μ : fm_Mem} (hi : fj μ) (g : sgc μ σ) {p : Int} (hp : 0 ≤ p ∧ p < μ 1 6) (hn : srcs μ p.toNat ≠ 6) : fm_Met kc ω yX5_wearOf cX5_wearOf 2 (some .int) (fm_rm 1) [fm_r ω 9, fm_I p] σ (fm_pI fun z σ' => z = wn μ p.toNat (srcs μ p.toNat) ∧ σ = σ') := by
  refine fm_start (by decide) rfl (Nat.le_of_ble_eq_true rfl) [some (fm_r ω 9), some (fm_I p)] rfl (fun Γ => ?_)
  have hf := hi.fi
  have h := g.1.1
  have hw := rel.cw hf h
  have b6 := hf.2.1 6 (by omega)
  have e6 := h.2.1.1
  obtain ⟨s1, s2⟩ := srcs_ok hf p.toNat
  have ec := g.2 p.toNat (by omega)
  have sb := std_b (μ := μ) (c := srcs μ p.toNat) (p := p.toNat) (by omega)
  have cs : srcs μ p.toNat < 6 → 0 ≤ μ 1 (srcs μ p.toNat) ∧ μ 1 (srcs μ p.toNat) ≤ 40 := fun q => hf.2.1 _ (by omega)
  refine fm_ald0 dX5_wearOf_0 ?_
  refine gr_5_1 dX5_wearOf_1 fd_X5_27 ?_
  refine fm_ald0 dX5_wearOf_4 ?_
  refine gr_5_6 dX5_wearOf_5 fd_X5_19 ?_
  refine fm_ild1 dX5_wearOf_8 ?_
  refine fm_iald dX5_wearOf_9 ia_12 (by omega) (by omega) ?_
  rw [ec]
  refine ar_1 (by omega) (by omega) dX5_wearOf_10 ?_
  rw [Int.toNat_natCast]
  refine gr_3_1 (by omega) dX5_wearOf_11 fd_X5_95 ?_
  refine fm_ald0 dX5_wearOf_14 ?_
  refine fm_ild1 dX5_wearOf_15 ?_
  refine fm_cvI dX5_wearOf_16 cl_X5_117 (k_X5_frameOf hi g hp hn) ob_9 rfl rfl (by decide) rfl rfl (Nat.le_of_ble_eq_true rfl) (fun z16 s16 q16 => ?_)
  obtain ⟨rfl, rfl⟩ := q16
  refine fm_iald dX5_wearOf_19 (ia_rw (by omega)) (by omega) (by omega) ?_
  exact fm_iretI dX5_wearOf_20 rfl ⟨((h.1.2 (srcs μ p.toNat) (by omega)).2 _ (by omega)).2.1, rfl⟩
set_option maxRecDepth 20000 in
set_option maxHeartbeats 4000000 in
theorem k_X5_mends {ω : fm_O} {σ : fm_Mem} {μ : fm_Mem} (hi : fj μ) (g : sgc μ σ) {b p : Int} (hb : 0 ≤ b ∧ b < μ 1 6) (hp : 0 ≤ p ∧ p < μ 1 6) (hn : srcs μ p.toNat ≠ 6) : fm_Met kc ω yX5_mends cX5_mends 3 (some .boolean) (fm_rm 2) [fm_r ω 9, fm_I b, fm_I p] σ (fm_pI fun z σ' => ((μ 5 b.toNat = μ 5 p.toNat ∧ srcs μ b.toNat = srcs μ p.toNat ∧ wn μ b.toNat (srcs μ p.toNat) < wn μ p.toNat (srcs μ p.toNat)) ∧ z = 1 ∨ ¬ (μ 5 b.toNat = μ 5 p.toNat ∧ srcs μ b.toNat = srcs μ p.toNat ∧ wn μ b.toNat (srcs μ p.toNat) < wn μ p.toNat (srcs μ p.toNat)) ∧ z = 0) ∧ σ = σ') := by
  refine fm_start (by decide) rfl (Nat.le_of_ble_eq_true rfl) [some (fm_r ω 9), some (fm_I b), some (fm_I p)] rfl (fun Γ => ?_)
  have hf := hi.fi
  have h := g.1.1
  have hw := rel.cw hf h
  have b6 := hf.2.1 6 (by omega)
  have e6 := h.2.1.1
  obtain ⟨s1, s2⟩ := srcs_ok hf p.toNat
  obtain ⟨t1, t2⟩ := srcs_ok hf b.toNat
  have ec := g.2 p.toNat (by omega)
  have ed := g.2 b.toNat (by omega)
  have y1 := hf.2.2.2.2.2.2.1 b.toNat
  have y2 := hf.2.2.2.2.2.2.1 p.toNat
  have x1 : σ 4 b.toNat = μ 5 b.toNat := (h.2.1.2 _ (by omega)).2
  have x2 : σ 4 p.toNat = μ 5 p.toNat := (h.2.1.2 _ (by omega)).2
  have w1 := wn_b hf b.toNat (srcs μ p.toNat)
  have w2 := wn_b hf p.toNat (srcs μ p.toNat)
  refine fm_ald0 dX5_mends_0 ?_
  refine gr_5_0 dX5_mends_1 fd_X5_23 ?_
  refine gr_4_1 dX5_mends_4 fd_X5_105 ?_
  refine fm_ild1 dX5_mends_7 ?_
  refine fm_iald dX5_mends_8 ia_4 (by omega) (by omega) ?_
  rw [x1]
  refine fm_ald0 dX5_mends_9 ?_
  refine gr_5_0 dX5_mends_10 fd_X5_23 ?_
  refine gr_4_1 dX5_mends_13 fd_X5_105 ?_
  refine fm_ild2 dX5_mends_16 ?_
  refine fm_iald dX5_mends_17 ia_4 (by omega) (by omega) ?_
  rw [x2]
  refine fm_icmp_ne (⟨by omega, by omega⟩) (⟨by omega, by omega⟩) 53 dX5_mends_18 (by decide) (fun h18 => ?_) (fun h18 => ?_)
  · refine fm_iconst dX5_mends_53 ?_
    exact fm_zretI dX5_mends_54 rfl (by omega) ⟨by omega, rfl⟩
  · refine fm_ald0 dX5_mends_21 ?_
    refine gr_5_6 dX5_mends_22 fd_X5_19 ?_
    refine fm_ild1 dX5_mends_25 ?_
    refine fm_iald dX5_mends_26 ia_12 (by omega) (by omega) ?_
    rw [ed]
    refine fm_ald0 dX5_mends_27 ?_
    refine gr_5_6 dX5_mends_28 fd_X5_19 ?_
    refine fm_ild2 dX5_mends_31 ?_
    refine fm_iald dX5_mends_32 ia_12 (by omega) (by omega) ?_
    rw [ec]
    refine fm_icmp_ne (⟨by omega, by omega⟩) (⟨by omega, by omega⟩) 53 dX5_mends_33 (by decide) (fun h33 => ?_) (fun h33 => ?_)
    · refine fm_iconst dX5_mends_53 ?_
      exact fm_zretI dX5_mends_54 rfl (by omega) ⟨by omega, rfl⟩
    · refine fm_ald0 dX5_mends_36 ?_
      refine fm_ild1 dX5_mends_37 ?_
      refine fm_cvI dX5_mends_38 cl_X5_114 (k_X5_wearOf hi g hb (by omega)) ob_9 rfl rfl (by decide) rfl rfl (Nat.le_of_ble_eq_true rfl) (fun z38 s38 q38 => ?_)
      obtain ⟨rfl, rfl⟩ := q38
      rw [show srcs μ b.toNat = srcs μ p.toNat by omega]
      refine fm_ald0 dX5_mends_41 ?_
      refine fm_ild2 dX5_mends_42 ?_
      refine fm_cvI dX5_mends_43 cl_X5_114 (k_X5_wearOf hi g hp hn) ob_9 rfl rfl (by decide) rfl rfl (Nat.le_of_ble_eq_true rfl) (fun z43 s43 q43 => ?_)
      obtain ⟨rfl, rfl⟩ := q43
      refine fm_icmp_ge (⟨by omega, by omega⟩) (⟨by omega, by omega⟩) 53 dX5_mends_46 (by decide) (fun h46 => ?_) (fun h46 => ?_)
      · refine fm_iconst dX5_mends_53 ?_
        exact fm_zretI dX5_mends_54 rfl (by omega) ⟨by omega, rfl⟩
      · refine fm_iconst dX5_mends_49 ?_
        refine fm_goto 54 dX5_mends_50 (by decide) ?_
        exact fm_zretI dX5_mends_54 rfl (by omega) ⟨by omega, rfl⟩
set_option maxRecDepth 20000 in
set_option maxHeartbeats 4000000 in
theorem k_X5_canBeMended {ω : fm_O} {σ : fm_Mem} {μ : fm_Mem} (hi : fj μ) (g : sgc μ σ) {p : Int} (hp : 0 ≤ p ∧ p < μ 1 6) : fm_Met kc ω yX5_canBeMended cX5_canBeMended 2 (some .boolean) (fm_rm 3) [fm_r ω 9, fm_I p] σ (fm_pI fun z σ' => ((mdP μ p.toNat) ∧ z = 1 ∨ ¬ (mdP μ p.toNat) ∧ z = 0) ∧ σ = σ') := by
  refine fm_start (by decide) rfl (Nat.le_of_ble_eq_true rfl) [some (fm_r ω 9), some (fm_I p)] rfl (fun Γ => ?_)
  have hf := hi.fi
  have h := g.1.1
  have hw := rel.cw hf h
  have b6 := hf.2.1 6 (by omega)
  have e6 := h.2.1.1
  obtain ⟨s1, s2⟩ := srcs_ok hf p.toNat
  have ec := g.2 p.toNat (by omega)
  have sb := std_b (μ := μ) (c := srcs μ p.toNat) (p := p.toNat) (by omega)
  have cs : srcs μ p.toNat < 6 → 0 ≤ μ 1 (srcs μ p.toNat) ∧ μ 1 (srcs μ p.toNat) ≤ 40 := fun q => hf.2.1 _ (by omega)
  have em : 0 < p → (p - 1).toNat = p.toNat - 1 := fun q => by omega
  have ep : (p + 1).toNat = p.toNat + 1 := by omega
  refine fm_ild1 dX5_canBeMended_0 ?_
  refine fm_if_le (⟨by omega, by omega⟩) 54 dX5_canBeMended_1 (by decide) (fun h1 => ?_) (fun h1 => ?_)
  · refine fm_iconst dX5_canBeMended_54 ?_
    refine fm_zretI dX5_canBeMended_55 rfl (by omega) ⟨?_, rfl⟩
    unfold mdP
    first
      | (rw [em (by omega), ep] at *; omega)
      | omega
  · refine fm_ild1 dX5_canBeMended_4 ?_
    refine fm_iconst dX5_canBeMended_5 ?_
    refine fm_iadd dX5_canBeMended_6 ?_
    refine fm_ald0 dX5_canBeMended_7 ?_
    refine gr_5_0 dX5_canBeMended_8 fd_X5_23 ?_
    refine gi_4_2 dX5_canBeMended_11 fd_X5_43 ?_
    rw [e6]
    refine fm_icmp_ge (⟨by omega, by omega⟩) (⟨by omega, by omega⟩) 54 dX5_canBeMended_14 (by decide) (fun h14 => ?_) (fun h14 => ?_)
    · refine fm_iconst dX5_canBeMended_54 ?_
      refine fm_zretI dX5_canBeMended_55 rfl (by omega) ⟨?_, rfl⟩
      unfold mdP
      first
        | (rw [em (by omega), ep] at *; omega)
        | omega
    · refine fm_ald0 dX5_canBeMended_17 ?_
      refine gr_5_6 dX5_canBeMended_18 fd_X5_19 ?_
      refine fm_ild1 dX5_canBeMended_21 ?_
      refine fm_iald dX5_canBeMended_22 ia_12 (by omega) (by omega) ?_
      rw [ec]
      refine fm_bipush (by decide) dX5_canBeMended_23 ?_
      refine fm_icmp_eq (⟨by omega, by omega⟩) (⟨by omega, by omega⟩) 54 dX5_canBeMended_25 (by decide) (fun h25 => ?_) (fun h25 => ?_)
      · refine fm_iconst dX5_canBeMended_54 ?_
        refine fm_zretI dX5_canBeMended_55 rfl (by omega) ⟨?_, rfl⟩
        unfold mdP
        first
          | (rw [em (by omega), ep] at *; omega)
          | omega
      · refine fm_ald0 dX5_canBeMended_28 ?_
        refine fm_ild1 dX5_canBeMended_29 ?_
        refine fm_iconst dX5_canBeMended_30 ?_
        refine fm_isub dX5_canBeMended_31 ?_
        refine fm_ild1 dX5_canBeMended_32 ?_
        refine fm_cvI dX5_canBeMended_33 cl_X5_111 (k_X5_mends hi g (by omega) hp (by omega)) ob_9 rfl rfl (by decide) rfl rfl (Nat.le_of_ble_eq_true rfl) (fun z33 s33 q33 => ?_)
        obtain ⟨q33, rfl⟩ := q33
        rw [em (by omega)] at q33
        refine fm_if_eq (⟨by omega, by omega⟩) 54 dX5_canBeMended_36 (by decide) (fun h36 => ?_) (fun h36 => ?_)
        · refine fm_iconst dX5_canBeMended_54 ?_
          refine fm_zretI dX5_canBeMended_55 rfl (by omega) ⟨?_, rfl⟩
          unfold mdP
          first
            | (rw [em (by omega), ep] at *; omega)
            | omega
        · refine fm_ald0 dX5_canBeMended_39 ?_
          refine fm_ild1 dX5_canBeMended_40 ?_
          refine fm_iconst dX5_canBeMended_41 ?_
          refine fm_iadd dX5_canBeMended_42 ?_
          refine fm_ild1 dX5_canBeMended_43 ?_
          refine fm_cvI dX5_canBeMended_44 cl_X5_111 (k_X5_mends hi g (by omega) hp (by omega)) ob_9 rfl rfl (by decide) rfl rfl (Nat.le_of_ble_eq_true rfl) (fun z44 s44 q44 => ?_)
          obtain ⟨q44, rfl⟩ := q44
          rw [ep] at q44
          refine fm_if_eq (⟨by omega, by omega⟩) 54 dX5_canBeMended_47 (by decide) (fun h47 => ?_) (fun h47 => ?_)
          · refine fm_iconst dX5_canBeMended_54 ?_
            refine fm_zretI dX5_canBeMended_55 rfl (by omega) ⟨?_, rfl⟩
            unfold mdP
            first
              | (rw [em (by omega), ep] at *; omega)
              | omega
          · refine fm_iconst dX5_canBeMended_50 ?_
            refine fm_goto 55 dX5_canBeMended_51 (by decide) ?_
            refine fm_zretI dX5_canBeMended_55 rfl (by omega) ⟨?_, rfl⟩
            unfold mdP
            first
              | (rw [em (by omega), ep] at *; omega)
              | omega
set_option maxRecDepth 20000 in
set_option maxHeartbeats 4000000 in
theorem k_X5_changesCopy {ω : fm_O} {σ : fm_Mem} {μ : fm_Mem} (hi : fj μ) (g : sgc μ σ) {p : Int} (hp : 0 ≤ p ∧ p < μ 1 6) : fm_Met kc ω yX5_changesCopy cX5_changesCopy 2 (some .boolean) (fm_rm 1) [fm_r ω 9, fm_I p] σ (fm_pI fun z σ' => ((jd μ p.toNat ∧ srcs μ (p.toNat - 1) ≠ srcs μ p.toNat) ∧ z = 1 ∨ ¬ (jd μ p.toNat ∧ srcs μ (p.toNat - 1) ≠ srcs μ p.toNat) ∧ z = 0) ∧ σ = σ') := by
  refine fm_start (by decide) rfl (Nat.le_of_ble_eq_true rfl) [some (fm_r ω 9), some (fm_I p)] rfl (fun Γ => ?_)
  have hf := hi.fi
  have h := g.1.1
  have hw := rel.cw hf h
  have b6 := hf.2.1 6 (by omega)
  have e6 := h.2.1.1
  obtain ⟨s1, s2⟩ := srcs_ok hf p.toNat
  have ec := g.2 p.toNat (by omega)
  have sb := std_b (μ := μ) (c := srcs μ p.toNat) (p := p.toNat) (by omega)
  have cs : srcs μ p.toNat < 6 → 0 ≤ μ 1 (srcs μ p.toNat) ∧ μ 1 (srcs μ p.toNat) ≤ 40 := fun q => hf.2.1 _ (by omega)
  obtain ⟨t1, t2⟩ := srcs_ok hf (p - 1).toNat
  have ed : 0 < p → σ 12 (p - 1).toNat = srcs μ (p - 1).toNat := fun q => g.2 (p - 1).toNat (by omega)
  have em : (p - 1).toNat = p.toNat - 1 := by omega
  refine fm_ild1 dX5_changesCopy_0 ?_
  refine fm_if_le (⟨by omega, by omega⟩) 47 dX5_changesCopy_1 (by decide) (fun h1 => ?_) (fun h1 => ?_)
  · refine fm_iconst dX5_changesCopy_47 ?_
    rw [em] at *
    exact fm_zretI dX5_changesCopy_48 rfl (by omega) ⟨by omega, rfl⟩
  · refine fm_ald0 dX5_changesCopy_4 ?_
    refine fm_ild1 dX5_changesCopy_5 ?_
    refine fm_ald0 dX5_changesCopy_6 ?_
    refine gr_5_6 dX5_changesCopy_7 fd_X5_19 ?_
    refine fm_ild1 dX5_changesCopy_10 ?_
    refine fm_iconst dX5_changesCopy_11 ?_
    refine fm_isub dX5_changesCopy_12 ?_
    refine fm_iald dX5_changesCopy_13 ia_12 (by omega) (by omega) ?_
    rw [ed (by omega)]
    refine fm_ald0 dX5_changesCopy_14 ?_
    refine gr_5_6 dX5_changesCopy_15 fd_X5_19 ?_
    refine fm_ild1 dX5_changesCopy_18 ?_
    refine fm_iald dX5_changesCopy_19 ia_12 (by omega) (by omega) ?_
    rw [ec]
    refine fm_cvI dX5_changesCopy_20 cl_X5_98 (k_X5_isJoined hi g.1 hp (by omega) (by omega)) ob_9 rfl rfl (by decide) rfl rfl (Nat.le_of_ble_eq_true rfl) (fun z20 s20 q20 => ?_)
    obtain ⟨q20, rfl⟩ := q20
    refine fm_if_eq (⟨by omega, by omega⟩) 47 dX5_changesCopy_23 (by decide) (fun h23 => ?_) (fun h23 => ?_)
    · refine fm_iconst dX5_changesCopy_47 ?_
      rw [em] at *
      exact fm_zretI dX5_changesCopy_48 rfl (by omega) ⟨by omega, rfl⟩
    · refine fm_ald0 dX5_changesCopy_26 ?_
      refine gr_5_6 dX5_changesCopy_27 fd_X5_19 ?_
      refine fm_ild1 dX5_changesCopy_30 ?_
      refine fm_iconst dX5_changesCopy_31 ?_
      refine fm_isub dX5_changesCopy_32 ?_
      refine fm_iald dX5_changesCopy_33 ia_12 (by omega) (by omega) ?_
      rw [ed (by omega)]
      refine fm_ald0 dX5_changesCopy_34 ?_
      refine gr_5_6 dX5_changesCopy_35 fd_X5_19 ?_
      refine fm_ild1 dX5_changesCopy_38 ?_
      refine fm_iald dX5_changesCopy_39 ia_12 (by omega) (by omega) ?_
      rw [ec]
      refine fm_icmp_eq (⟨by omega, by omega⟩) (⟨by omega, by omega⟩) 47 dX5_changesCopy_40 (by decide) (fun h40 => ?_) (fun h40 => ?_)
      · refine fm_iconst dX5_changesCopy_47 ?_
        rw [em] at *
        exact fm_zretI dX5_changesCopy_48 rfl (by omega) ⟨by omega, rfl⟩
      · refine fm_iconst dX5_changesCopy_43 ?_
        refine fm_goto 48 dX5_changesCopy_44 (by decide) ?_
        rw [em] at *
        exact fm_zretI dX5_changesCopy_48 rfl (by omega) ⟨by omega, rfl⟩
set_option maxRecDepth 20000 in
set_option maxHeartbeats 4000000 in
theorem k_X5_changesCamera {ω : fm_O} {σ : fm_Mem} {μ : fm_Mem} (hi : fj μ) (g : sgc μ σ) {p : Int} (hp : 0 ≤ p ∧ p < μ 1 6) : fm_Met kc ω yX5_changesCamera cX5_changesCamera 2 (some .boolean) (fm_rm 1) [fm_r ω 9, fm_I p] σ (fm_pI fun z σ' => ((jd μ p.toNat ∧ cmr μ (p.toNat - 1) (srcs μ (p.toNat - 1)) ≠ cmr μ p.toNat (srcs μ p.toNat)) ∧ z = 1 ∨ ¬ (jd μ p.toNat ∧ cmr μ (p.toNat - 1) (srcs μ (p.toNat - 1)) ≠ cmr μ p.toNat (srcs μ p.toNat)) ∧ z = 0) ∧ σ = σ') := by
  refine fm_start (by decide) rfl (Nat.le_of_ble_eq_true rfl) [some (fm_r ω 9), some (fm_I p)] rfl (fun Γ => ?_)
  have hf := hi.fi
  have h := g.1.1
  have hw := rel.cw hf h
  have b6 := hf.2.1 6 (by omega)
  have e6 := h.2.1.1
  obtain ⟨s1, s2⟩ := srcs_ok hf p.toNat
  have ec := g.2 p.toNat (by omega)
  have sb := std_b (μ := μ) (c := srcs μ p.toNat) (p := p.toNat) (by omega)
  have cs : srcs μ p.toNat < 6 → 0 ≤ μ 1 (srcs μ p.toNat) ∧ μ 1 (srcs μ p.toNat) ≤ 40 := fun q => hf.2.1 _ (by omega)
  obtain ⟨t1, t2⟩ := srcs_ok hf (p - 1).toNat
  have ed : 0 < p → σ 12 (p - 1).toNat = srcs μ (p - 1).toNat := fun q => g.2 (p - 1).toNat (by omega)
  have em : (p - 1).toNat = p.toNat - 1 := by omega
  refine fm_ild1 dX5_changesCamera_0 ?_
  refine fm_if_le (⟨by omega, by omega⟩) 59 dX5_changesCamera_1 (by decide) (fun h1 => ?_) (fun h1 => ?_)
  · refine fm_iconst dX5_changesCamera_59 ?_
    rw [em] at *
    exact fm_zretI dX5_changesCamera_60 rfl (by omega) ⟨by omega, rfl⟩
  · refine fm_ald0 dX5_changesCamera_4 ?_
    refine fm_ild1 dX5_changesCamera_5 ?_
    refine fm_ald0 dX5_changesCamera_6 ?_
    refine gr_5_6 dX5_changesCamera_7 fd_X5_19 ?_
    refine fm_ild1 dX5_changesCamera_10 ?_
    refine fm_iconst dX5_changesCamera_11 ?_
    refine fm_isub dX5_changesCamera_12 ?_
    refine fm_iald dX5_changesCamera_13 ia_12 (by omega) (by omega) ?_
    rw [ed (by omega)]
    refine fm_ald0 dX5_changesCamera_14 ?_
    refine gr_5_6 dX5_changesCamera_15 fd_X5_19 ?_
    refine fm_ild1 dX5_changesCamera_18 ?_
    refine fm_iald dX5_changesCamera_19 ia_12 (by omega) (by omega) ?_
    rw [ec]
    refine fm_cvI dX5_changesCamera_20 cl_X5_98 (k_X5_isJoined hi g.1 hp (by omega) (by omega)) ob_9 rfl rfl (by decide) rfl rfl (Nat.le_of_ble_eq_true rfl) (fun z20 s20 q20 => ?_)
    obtain ⟨q20, rfl⟩ := q20
    refine fm_if_eq (⟨by omega, by omega⟩) 59 dX5_changesCamera_23 (by decide) (fun h23 => ?_) (fun h23 => ?_)
    · refine fm_iconst dX5_changesCamera_59 ?_
      rw [em] at *
      exact fm_zretI dX5_changesCamera_60 rfl (by omega) ⟨by omega, rfl⟩
    · refine fm_ald0 dX5_changesCamera_26 ?_
      refine fm_ild1 dX5_changesCamera_27 ?_
      refine fm_iconst dX5_changesCamera_28 ?_
      refine fm_isub dX5_changesCamera_29 ?_
      refine fm_ald0 dX5_changesCamera_30 ?_
      refine gr_5_6 dX5_changesCamera_31 fd_X5_19 ?_
      refine fm_ild1 dX5_changesCamera_34 ?_
      refine fm_iconst dX5_changesCamera_35 ?_
      refine fm_isub dX5_changesCamera_36 ?_
      refine fm_iald dX5_changesCamera_37 ia_12 (by omega) (by omega) ?_
      rw [ed (by omega)]
      refine fm_cvI dX5_changesCamera_38 cl_X5_102 (k_X5_cameraOf hi g.1 (by omega) (by omega) (by rw [Int.toNat_natCast]; omega)) ob_9 rfl rfl (by decide) rfl rfl (Nat.le_of_ble_eq_true rfl) (fun z38 s38 q38 => ?_)
      obtain ⟨rfl, rfl⟩ := q38
      rw [Int.toNat_natCast]
      have c1 := hf.2.2.2.2.2.1 (40 * srcs μ (p - 1).toNat + (std μ (srcs μ (p - 1).toNat) (p - 1).toNat).toNat)
      change 0 ≤ cmr μ (p - 1).toNat (srcs μ (p - 1).toNat) ∧ cmr μ (p - 1).toNat (srcs μ (p - 1).toNat) ≤ 1 at c1
      refine fm_ald0 dX5_changesCamera_41 ?_
      refine fm_ild1 dX5_changesCamera_42 ?_
      refine fm_ald0 dX5_changesCamera_43 ?_
      refine gr_5_6 dX5_changesCamera_44 fd_X5_19 ?_
      refine fm_ild1 dX5_changesCamera_47 ?_
      refine fm_iald dX5_changesCamera_48 ia_12 (by omega) (by omega) ?_
      rw [ec]
      refine fm_cvI dX5_changesCamera_49 cl_X5_102 (k_X5_cameraOf hi g.1 hp (by omega) (by rw [Int.toNat_natCast]; omega)) ob_9 rfl rfl (by decide) rfl rfl (Nat.le_of_ble_eq_true rfl) (fun z49 s49 q49 => ?_)
      obtain ⟨rfl, rfl⟩ := q49
      rw [Int.toNat_natCast]
      have c2 := hf.2.2.2.2.2.1 (40 * srcs μ p.toNat + (std μ (srcs μ p.toNat) p.toNat).toNat)
      change 0 ≤ cmr μ p.toNat (srcs μ p.toNat) ∧ cmr μ p.toNat (srcs μ p.toNat) ≤ 1 at c2
      refine fm_icmp_eq (⟨by omega, by omega⟩) (⟨by omega, by omega⟩) 59 dX5_changesCamera_52 (by decide) (fun h52 => ?_) (fun h52 => ?_)
      · refine fm_iconst dX5_changesCamera_59 ?_
        rw [em] at *
        exact fm_zretI dX5_changesCamera_60 rfl (by omega) ⟨by omega, rfl⟩
      · refine fm_iconst dX5_changesCamera_55 ?_
        refine fm_goto 60 dX5_changesCamera_56 (by decide) ?_
        rw [em] at *
        exact fm_zretI dX5_changesCamera_60 rfl (by omega) ⟨by omega, rfl⟩
