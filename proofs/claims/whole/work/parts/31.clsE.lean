/-! order: the class's side -/
theorem fa_or (a b : Nat) : nI a ||| nI b = nI (a ||| b) := by
  apply Int32.toBitVec_inj.1
  show BitVec.ofNat 32 a ||| BitVec.ofNat 32 b = BitVec.ofNat 32 (a ||| b)
  apply BitVec.eq_of_getLsbD_eq
  intro i hi
  simp [hi]
theorem sh_am {s : Nat} (h : s < 16) : ((Int32.ofInt (s : Int) &&& 31).toBitVec.smod 32).toNat = s := (by decide +kernel : ∀ s : Nat, s < 16 → ((Int32.ofInt (s : Int) &&& 31).toBitVec.smod 32).toNat = s) s h
theorem bi_shr {U s : Nat} (hU : U < 2147483648) (hs : s < 16) : Int32.ofInt (U : Int) >>> (Int32.ofInt (s : Int) &&& 31) = Int32.ofInt ((U / 2 ^ s : Nat) : Int) := by
  have : U / 2 ^ s ≤ U := Nat.div_le_self _ _
  rw [fm_nn (m := U) hU, fm_nn (m := U / 2 ^ s) (by omega), pk_shrN (by omega) _ s (sh_am hs)]
theorem bi_1 {U s : Nat} : Int32.ofInt ((U / 2 ^ s : Nat) : Int) &&& Int32.ofInt 1 = Int32.ofInt (bt U s : Int) := by
  by_cases h : U / 2 ^ s < 2147483648
  · rw [fm_nn h, pk_andN (by omega) 1 (by decide), fm_nn (by unfold bt; omega)]
    rfl
  · rw [pk_and _ 1 (by decide)]
    have e : (Int32.ofInt ((U / 2 ^ s : Nat) : Int)).toBitVec.toNat = U / 2 ^ s % 2 ^ 32 := by
      show (BitVec.ofInt 32 ((U / 2 ^ s : Nat) : Int)).toNat = _
      rw [BitVec.toNat_ofInt]
      omega
    rw [e, fm_nn (by unfold bt; omega)]
    unfold bt
    congr 1
    omega
theorem bi_shl {s : Nat} (hs : s < 16) : Int32.ofInt 1 <<< (Int32.ofInt (s : Int) &&& 31) = Int32.ofInt ((2 ^ s : Nat) : Int) := by
  have h16 : 2 ^ s < 2 ^ 16 := Nat.pow_lt_pow_right (by decide) hs
  rw [show Int32.ofInt 1 = nI 1 from rfl, pk_shlN _ s (sh_am hs) (by omega), fm_nn (by omega), Nat.one_mul]
theorem bi_or {U s : Nat} (hU : U < 64) (hs : s < 6) (hb : bt U s = 0) : Int32.ofInt (U : Int) ||| Int32.ofInt ((2 ^ s : Nat) : Int) = Int32.ofInt ((U + 2 ^ s : Nat) : Int) := by
  have h16 : 2 ^ s < 2 ^ 6 := Nat.pow_lt_pow_right (by decide) hs
  rw [fm_nn (by omega), fm_nn (by omega), fm_nn (by omega), fa_or, lor_add U hU s hs hb]
def frA (σ τ : fm_Mem) : Prop := ∀ k x, k < 20 ∨ 22 < k → τ k x = σ k x
theorem frA.rfl {a : fm_Mem} : frA a a := fun _ _ _ => Eq.refl _
theorem frA.trans {a b c : fm_Mem} (h1 : frA a b) (h2 : frA b c) : frA a c := fun k x q => (h2 k x q).trans (h1 k x q)
theorem frA.up {a b : fm_Mem} {k j : Nat} {v : Int} (h : frA a b) (hk : 20 ≤ k ∧ k ≤ 22) : frA a (fm_up b k j v) := fun k2 j2 h1 => by
  rw [fm_up_ne (by omega)]
  exact h k2 j2 h1
theorem frA.frm {a b : fm_Mem} (h : frA a b) : frm a b := fun k j hk => by
  unfold scr at hk
  exact h k j (by omega)
def tbo (μ : fm_Mem) (N : Nat) (τ : fm_Mem) (m : Nat) : Prop := ∀ V : Nat, m ≤ V → V < 2 ^ N → τ 20 V = (dpt μ N (N - pcn V N) V).1 ∧ τ 21 V = (dpt μ N (N - pcn V N) V).2.1
theorem dpt_b2 {μ : fm_Mem} (hf : fi μ) {N V : Nat} (hN : N < 7) (hV : V < 2 ^ N) : 0 ≤ (dpt μ N (N - pcn V N) V).1 ∧ (dpt μ N (N - pcn V N) V).1 ≤ 72000 := by
  have h1 := pcn_le V N
  have h2 := dpt_b hf hN (N - pcn V N) V hV (by omega)
  omega
theorem fm_up_k {σ : fm_Mem} {k j a b : Nat} {v : Int} (h : ¬ (a = k ∧ b = j)) : fm_up σ k j v a b = σ a b := if_neg h
set_option maxRecDepth 20000 in
set_option maxHeartbeats 4000000 in
theorem k_X0_isIn {ω : fm_O} {σ : fm_Mem} {U s : Nat} (hU : U < 64) (hs : s < 6) : fm_Met kc ω yX0_isIn cX0_isIn 2 (some .boolean) (fm_rm 0) [fm_I (U : Int), fm_I (s : Int)] σ (fm_pI fun z σ' => ((bt U s = 1) ∧ z = 1 ∨ ¬ (bt U s = 1) ∧ z = 0) ∧ σ = σ') := by
  refine fm_start (by decide) rfl (Nat.le_of_ble_eq_true rfl) [some (fm_I (U : Int)), some (fm_I (s : Int))] rfl (fun Γ => ?_)
  have hbc := bt_c U s
  refine fm_ild0 dX0_isIn_0 ?_
  refine fm_ild1 dX0_isIn_1 ?_
  refine fm_ishr ((U / 2 ^ s : Nat) : Int) (bi_shr (by omega) (by omega)) dX0_isIn_2 ?_
  refine fm_iconst dX0_isIn_3 ?_
  refine fm_iand (bt U s : Int) bi_1 dX0_isIn_4 ?_
  refine fm_if_eq (⟨by omega, by omega⟩) 12 dX0_isIn_5 (by decide) (fun h5 => ?_) (fun h5 => ?_)
  · refine fm_iconst dX0_isIn_12 ?_
    exact fm_zretI dX0_isIn_13 rfl (by omega) ⟨by omega, rfl⟩
  · refine fm_iconst dX0_isIn_8 ?_
    refine fm_goto 13 dX0_isIn_9 (by decide) ?_
    exact fm_zretI dX0_isIn_13 rfl (by omega) ⟨by omega, rfl⟩
set_option maxRecDepth 20000 in
set_option maxHeartbeats 4000000 in
theorem l_qw {ω : fm_O} {σ : fm_Mem} {Γ : fm_G} {μ : fm_Mem} (hi : fj μ) (h : rel μ σ) {N U s : Nat} (hN : N < 7) (hU : U < 2 ^ N) (hs : s < N) (hb : bt U s = 0) : ∀ (d t : Nat) (b : Int), t + d = N → b = σ 20 (U + 2 ^ s) + dsm μ U s t → fm_W kc ω Γ (cX0_quarrelWith, RX0, fm_rm 1, 6, (some .int)) (fm_pI fun z σ' => z = σ 20 (U + 2 ^ s) + dsm μ U s N ∧ σ = σ') σ 15 [some (fm_r ω 18), some (fm_I (N : Int)), some (fm_I (U : Int)), some (fm_I (s : Int)), some (fm_I b), some (fm_I (t : Int))] [] := by
  have h64 := pow_64 N hN
  intro d
  induction d with
  | zero =>
    intro t b ht hb2
    refine fm_ild5 dX0_quarrelWith_15 ?_
    refine fm_ild1 dX0_quarrelWith_17 ?_
    refine fm_icmp_ge (⟨by omega, by omega⟩) (⟨by omega, by omega⟩) 50 dX0_quarrelWith_18 (by decide) (fun h18 => ?_) (fun h18 => ?_)
    · refine fm_ild4 dX0_quarrelWith_50 ?_
      exact fm_iretI dX0_quarrelWith_52 rfl ⟨by rw [hb2, show t = N by omega], rfl⟩
    · exfalso; omega
  | succ d ih =>
    intro t b ht hb2
    have ew : σ (51 + s) t = cuw μ s t (μ 0 12).toNat := h.2.2.2.2.1.2 s t (by omega) (by omega)
    refine fm_ild5 dX0_quarrelWith_15 ?_
    refine fm_ild1 dX0_quarrelWith_17 ?_
    refine fm_icmp_ge (⟨by omega, by omega⟩) (⟨by omega, by omega⟩) 50 dX0_quarrelWith_18 (by decide) (fun h18 => ?_) (fun h18 => ?_)
    · exfalso; omega
    · refine fm_ild2 dX0_quarrelWith_21 ?_
      refine fm_ild5 dX0_quarrelWith_22 ?_
      refine fm_csI dX0_quarrelWith_24 cl_X0_45 (k_X0_isIn (by omega) (by omega)) rfl rfl (by decide) rfl rfl (Nat.le_of_ble_eq_true rfl) (fun z24 s24 q24 => ?_)
      obtain ⟨q24, rfl⟩ := q24
      refine fm_if_eq (⟨by omega, by omega⟩) 44 dX0_quarrelWith_27 (by decide) (fun h27 => ?_) (fun h27 => ?_)
      · refine fm_inc5 rfl dX0_quarrelWith_44 ?_
        refine fm_goto 15 dX0_quarrelWith_47 (by decide) ?_
        rw [show (t : Int) + 1 = ((t + 1 : Nat) : Int) by omega]
        refine ih (t + 1) _ (by omega) ?_
        rw [dsm]
        first
          | (rw [if_pos (by omega)]; omega)
          | (rw [if_neg (by omega)]; omega)
      · refine fm_ild4 dX0_quarrelWith_30 ?_
        refine fm_ald0 dX0_quarrelWith_32 ?_
        refine gr_0_0 dX0_quarrelWith_33 fd_X0_11 ?_
        refine fm_ild3 dX0_quarrelWith_36 ?_
        refine ar_19 (by omega) (by omega) dX0_quarrelWith_37 ?_
        rw [Int.toNat_natCast]
        refine fm_ild5 dX0_quarrelWith_38 ?_
        refine fm_iald dX0_quarrelWith_40 (ia_wt (by omega)) (by omega) (by omega) ?_
        rw [Int.toNat_natCast, ew]
        refine fm_iadd dX0_quarrelWith_41 ?_
        refine fm_ist4 rfl dX0_quarrelWith_42 ?_
        refine fm_inc5 rfl dX0_quarrelWith_44 ?_
        refine fm_goto 15 dX0_quarrelWith_47 (by decide) ?_
        rw [show (t : Int) + 1 = ((t + 1 : Nat) : Int) by omega]
        refine ih (t + 1) _ (by omega) ?_
        rw [dsm]
        first
          | (rw [if_pos (by omega)]; omega)
          | (rw [if_neg (by omega)]; omega)
set_option maxRecDepth 20000 in
set_option maxHeartbeats 4000000 in
theorem k_X0_quarrelWith {ω : fm_O} {σ : fm_Mem} {μ : fm_Mem} (hi : fj μ) (h : rel μ σ) {N U s : Nat} (hN : N < 7) (hU : U < 2 ^ N) (hs : s < N) (hb : bt U s = 0) : fm_Met kc ω yX0_quarrelWith cX0_quarrelWith 6 (some .int) (fm_rm 1) [fm_r ω 18, fm_I (N : Int), fm_I (U : Int), fm_I (s : Int)] σ (fm_pI fun z σ' => z = σ 20 (U + 2 ^ s) + dsm μ U s N ∧ σ = σ') := by
  refine fm_start (by decide) rfl (Nat.le_of_ble_eq_true rfl) [some (fm_r ω 18), some (fm_I (N : Int)), some (fm_I (U : Int)), some (fm_I (s : Int)), none, none] rfl (fun Γ => ?_)
  have h64 := pow_64 N hN
  have hlt := lt_add N hN U hU s hs hb
  have hpw : 0 < 2 ^ s := Nat.two_pow_pos s
  refine fm_ald0 dX0_quarrelWith_0 ?_
  refine gr_0_1 dX0_quarrelWith_1 fd_X0_16 ?_
  refine fm_ild2 dX0_quarrelWith_4 ?_
  refine fm_iconst dX0_quarrelWith_5 ?_
  refine fm_ild3 dX0_quarrelWith_6 ?_
  refine fm_ishl ((2 ^ s : Nat) : Int) (bi_shl (by omega)) dX0_quarrelWith_7 ?_
  refine fm_ior ((U + 2 ^ s : Nat) : Int) (bi_or (by omega) (by omega) hb) dX0_quarrelWith_8 ?_
  refine fm_iald dX0_quarrelWith_9 ia_20 (by omega) (by omega) ?_
  rw [Int.toNat_natCast]
  refine fm_ist4 rfl dX0_quarrelWith_10 ?_
  refine fm_iconst dX0_quarrelWith_12 ?_
  refine fm_ist5 rfl dX0_quarrelWith_13 ?_
  exact l_qw hi h hN hU hs hb N 0 _ (by omega) (by rw [dsm]; omega)
theorem gg_q (a b : Tr) : (gg a b).1 = (if b.1 < a.1 then b.1 else a.1) ∧ (gg a b).2.1 = (if b.1 < a.1 then b.2.1 else if b.1 = a.1 then a.2.1 + b.2.1 else a.2.1) := by
  unfold gg
  split
  · exact ⟨rfl, rfl⟩
  · split
    · exact ⟨rfl, rfl⟩
    · exact ⟨rfl, rfl⟩
set_option maxRecDepth 20000 in
set_option maxHeartbeats 4000000 in
theorem l_ws {ω : fm_O} {σ : fm_Mem} {Γ : fm_G} {μ : fm_Mem} (hi : fj μ) (h : rel μ σ) {N U r : Nat} (hN : N < 7) (hU : U < 2 ^ N) (hr : r + 1 + pcn U N = N) (ht : tbo μ N σ (U + 1)) : ∀ (d s : Nat) (τ : fm_Mem) (o4 : Option Value), s + d = N → (∀ k x, ¬ ((k = 20 ∨ k = 21) ∧ x = U) → τ k x = σ k x) → τ 20 U = (gfo U (xq μ N r U) (1000000, 0, 0) s).1 → τ 21 U = (gfo U (xq μ N r U) (1000000, 0, 0) s).2.1 → (0 ≤ (gfo U (xq μ N r U) (1000000, 0, 0) s).1 ∧ (gfo U (xq μ N r U) (1000000, 0, 0) s).1 ≤ 1000000) → fm_W kc ω Γ (cX0_weighSet, RX0, fm_rm 2, 5, none) (fm_pN fun τ => (∀ k x, ¬ ((k = 20 ∨ k = 21) ∧ x = U) → τ k x = σ k x) ∧ τ 20 U = (dpt μ N (r + 1) U).1 ∧ τ 21 U = (dpt μ N (r + 1) U).2.1) τ 17 [some (fm_r ω 18), some (fm_I (N : Int)), some (fm_I (U : Int)), some (fm_I (s : Int)), o4] [] := by
  have hf := hi.fi
  have h64 := pow_64 N hN
  intro d
  induction d with
  | zero =>
    intro s τ o4 hs hr1 e20 e21 hb
    refine fm_ild3 dX0_weighSet_17 ?_
    refine fm_ild1 dX0_weighSet_18 ?_
    refine fm_icmp_ge (⟨by omega, by omega⟩) (⟨by omega, by omega⟩) 101 dX0_weighSet_19 (by decide) (fun h19 => ?_) (fun h19 => ?_)
    · exact fm_vretN dX0_weighSet_101 rfl ⟨hr1, by rw [e20, dpt_x, show s = N by omega], by rw [e21, dpt_x, show s = N by omega]⟩
    · exfalso; omega
  | succ d ih =>
    intro s τ o4 hs hr1 e20 e21 hb
    have hre : rel μ τ := h.frm (fun k j hk => hr1 k j (fun q => hk (by unfold scr; omega)))
    have nx : s + 1 ≤ N := by omega
    have hp := pcn_le U N
    have J95 : ∀ (τ2 : fm_Mem) (o4 : Option Value), (∀ k x, ¬ ((k = 20 ∨ k = 21) ∧ x = U) → τ2 k x = σ k x) → τ2 20 U = (gfo U (xq μ N r U) (1000000, 0, 0) (s + 1)).1 → τ2 21 U = (gfo U (xq μ N r U) (1000000, 0, 0) (s + 1)).2.1 → (0 ≤ (gfo U (xq μ N r U) (1000000, 0, 0) (s + 1)).1 ∧ (gfo U (xq μ N r U) (1000000, 0, 0) (s + 1)).1 ≤ 1000000) → fm_W kc ω Γ (cX0_weighSet, RX0, fm_rm 2, 5, none) (fm_pN fun τ => (∀ k x, ¬ ((k = 20 ∨ k = 21) ∧ x = U) → τ k x = σ k x) ∧ τ 20 U = (dpt μ N (r + 1) U).1 ∧ τ 21 U = (dpt μ N (r + 1) U).2.1) τ2 95 [some (fm_r ω 18), some (fm_I (N : Int)), some (fm_I (U : Int)), some (fm_I (s : Int)), o4] [] := by
      intro τ2 o4 a1 a2 a3 a4
      refine fm_inc3 rfl dX0_weighSet_95 ?_
      refine fm_goto 17 dX0_weighSet_98 (by decide) ?_
      rw [show (s : Int) + 1 = ((s + 1 : Nat) : Int) by omega]
      exact ih (s + 1) τ2 _ (by omega) a1 a2 a3 a4
    by_cases hbs : bt U s = 0
    · have hlt := lt_add N hN U hU s (by omega) hbs
      have hpc := pcn_add U (by omega) N hN s (by omega) hbs
      have hpw : 0 < 2 ^ s := Nat.two_pow_pos s
      obtain ⟨t1, t2⟩ := ht (U + 2 ^ s) (by omega) hlt
      rw [show N - pcn (U + 2 ^ s) N = r by omega] at t1 t2
      have f1 : τ 20 (U + 2 ^ s) = (dpt μ N r (U + 2 ^ s)).1 := by rw [hr1 20 _ (by omega)]; exact t1
      have f2 : ∀ v : Int, ∀ v2 : Int, True → τ 21 (U + 2 ^ s) = (dpt μ N r (U + 2 ^ s)).2.1 := fun _ _ _ => by rw [hr1 21 _ (by omega)]; exact t2
      have f3 := f2 0 0 trivial
      have db := dsm_b hf U s N
      have pb := dpt_b hf hN r (U + 2 ^ s) hlt (by omega)
      have gq := gg_q (gfo U (xq μ N r U) (1000000, 0, 0) s) (xq μ N r U s)
      have x1 : (xq μ N r U s).1 = dsm μ U s N + (dpt μ N r (U + 2 ^ s)).1 := rfl
      have x2 : (xq μ N r U s).2.1 = (dpt μ N r (U + 2 ^ s)).2.1 := rfl
      have gs : gfo U (xq μ N r U) (1000000, 0, 0) (s + 1) = gg (gfo U (xq μ N r U) (1000000, 0, 0) s) (xq μ N r U s) := by rw [gfo, if_pos hbs]
      rw [gs, gq.1, gq.2, x1, x2] at J95
      generalize gfo U (xq μ N r U) (1000000, 0, 0) s = G at *
      refine fm_ild3 dX0_weighSet_17 ?_
      refine fm_ild1 dX0_weighSet_18 ?_
      refine fm_icmp_ge (⟨by omega, by omega⟩) (⟨by omega, by omega⟩) 101 dX0_weighSet_19 (by decide) (fun h19 => ?_) (fun h19 => ?_)
      · exfalso; omega
      · refine fm_ild2 dX0_weighSet_22 ?_
        refine fm_ild3 dX0_weighSet_23 ?_
        refine fm_csI dX0_weighSet_24 cl_X0_45 (k_X0_isIn (by omega) (by omega)) rfl rfl (by decide) rfl rfl (Nat.le_of_ble_eq_true rfl) (fun z24 s24 q24 => ?_)
        obtain ⟨q24, rfl⟩ := q24
        refine fm_if_ne (⟨by omega, by omega⟩) 95 dX0_weighSet_27 (by decide) (fun h27 => ?_) (fun h27 => ?_)
        · exfalso; omega
        · refine fm_ald0 dX0_weighSet_30 ?_
          refine fm_ild1 dX0_weighSet_31 ?_
          refine fm_ild2 dX0_weighSet_32 ?_
          refine fm_ild3 dX0_weighSet_33 ?_
          refine fm_cvI dX0_weighSet_34 cl_X0_49 (k_X0_quarrelWith hi hre hN hU (by omega) hbs) ob_18 rfl rfl (by decide) rfl rfl (Nat.le_of_ble_eq_true rfl) (fun z34 s34 q34 => ?_)
          obtain ⟨rfl, rfl⟩ := q34
          rw [f1]
          refine fm_ist4 rfl dX0_weighSet_37 ?_
          refine fm_ild4 dX0_weighSet_39 ?_
          refine fm_ald0 dX0_weighSet_41 ?_
          refine gr_0_1 dX0_weighSet_42 fd_X0_16 ?_
          refine fm_ild2 dX0_weighSet_45 ?_
          refine fm_iald dX0_weighSet_46 ia_20 (by omega) (by omega) ?_
          rw [Int.toNat_natCast, e20]
          refine fm_icmp_ge (⟨by omega, by omega⟩) (⟨by omega, by omega⟩) 65 dX0_weighSet_47 (by decide) (fun h47 => ?_) (fun h47 => ?_)
          · refine fm_ild4 dX0_weighSet_65 ?_
            refine fm_ald0 dX0_weighSet_67 ?_
            refine gr_0_1 dX0_weighSet_68 fd_X0_16 ?_
            refine fm_ild2 dX0_weighSet_71 ?_
            refine fm_iald dX0_weighSet_72 ia_20 (by omega) (by omega) ?_
            rw [Int.toNat_natCast]
            try simp (disch := omega) only [fm_up_ne, fm_up_nj, fm_up_eq]
            try rw [e20]
            refine fm_icmp_ne (⟨by omega, by omega⟩) (⟨by omega, by omega⟩) 95 dX0_weighSet_73 (by decide) (fun h73 => ?_) (fun h73 => ?_)
            · refine J95 _ _ (fun k x hk => by rw [← hr1 k x hk]; repeat (first | rfl | rw [fm_up_k (by omega)])) ?_ ?_ ?_
              · try simp (disch := omega) only [fm_up_ne, fm_up_nj, fm_up_eq]
                try rw [e20]
                first
                  | (rw [if_pos (by omega)] <;> omega)
                  | (rw [if_neg (by omega)] <;> omega)
              · try simp (disch := omega) only [fm_up_ne, fm_up_nj, fm_up_eq]
                try rw [e21]
                first
                  | (rw [if_pos (by omega)] <;> omega)
                  | (rw [if_neg (by omega), if_pos (by omega)] <;> omega)
                  | (rw [if_neg (by omega), if_neg (by omega)] <;> omega)
              · first
                  | (rw [if_pos (by omega)] <;> omega)
                  | (rw [if_neg (by omega)] <;> omega)
            · refine fm_ald0 dX0_weighSet_76 ?_
              refine gr_0_2 dX0_weighSet_77 fd_X0_20 ?_
              refine fm_ild2 dX0_weighSet_80 ?_
              refine fm_dup2 dX0_weighSet_81 ?_
              refine fm_iald dX0_weighSet_82 ia_21 (by omega) (by omega) ?_
              rw [Int.toNat_natCast]
              try simp (disch := omega) only [fm_up_ne, fm_up_nj, fm_up_eq]
              try rw [e21]
              refine fm_ald0 dX0_weighSet_83 ?_
              refine gr_0_2 dX0_weighSet_84 fd_X0_20 ?_
              refine fm_ild2 dX0_weighSet_87 ?_
              refine fm_iconst dX0_weighSet_88 ?_
              refine fm_ild3 dX0_weighSet_89 ?_
              refine fm_ishl ((2 ^ s : Nat) : Int) (bi_shl (by omega)) dX0_weighSet_90 ?_
              refine fm_ior ((U + 2 ^ s : Nat) : Int) (bi_or (by omega) (by omega) hbs) dX0_weighSet_91 ?_
              refine fm_iald dX0_weighSet_92 ia_21 (by omega) (by omega) ?_
              rw [Int.toNat_natCast]
              try simp (disch := omega) only [fm_up_ne, fm_up_nj, fm_up_eq]
              rw [f3]
              refine fm_iadd dX0_weighSet_93 ?_
              refine fm_iast dX0_weighSet_94 ia_21 (by omega) (by omega) ?_
              rw [Int.toNat_natCast]
              refine J95 _ _ (fun k x hk => by rw [← hr1 k x hk]; repeat (first | rfl | rw [fm_up_k (by omega)])) ?_ ?_ ?_
              · try simp (disch := omega) only [fm_up_ne, fm_up_nj, fm_up_eq]
                try rw [e20]
                first
                  | (rw [if_pos (by omega)] <;> omega)
                  | (rw [if_neg (by omega)] <;> omega)
              · try simp (disch := omega) only [fm_up_ne, fm_up_nj, fm_up_eq]
                try rw [e21]
                first
                  | (rw [if_pos (by omega)] <;> omega)
                  | (rw [if_neg (by omega), if_pos (by omega)] <;> omega)
                  | (rw [if_neg (by omega), if_neg (by omega)] <;> omega)
              · first
                  | (rw [if_pos (by omega)] <;> omega)
                  | (rw [if_neg (by omega)] <;> omega)
          · refine fm_ald0 dX0_weighSet_50 ?_
            refine gr_0_1 dX0_weighSet_51 fd_X0_16 ?_
            refine fm_ild2 dX0_weighSet_54 ?_
            refine fm_ild4 dX0_weighSet_55 ?_
            refine fm_iast dX0_weighSet_57 ia_20 (by omega) (by omega) ?_
            rw [Int.toNat_natCast]
            refine fm_ald0 dX0_weighSet_58 ?_
            refine gr_0_2 dX0_weighSet_59 fd_X0_20 ?_
            refine fm_ild2 dX0_weighSet_62 ?_
            refine fm_iconst dX0_weighSet_63 ?_
            refine fm_iast dX0_weighSet_64 ia_21 (by omega) (by omega) ?_
            rw [Int.toNat_natCast]
            refine fm_ild4 dX0_weighSet_65 ?_
            refine fm_ald0 dX0_weighSet_67 ?_
            refine gr_0_1 dX0_weighSet_68 fd_X0_16 ?_
            refine fm_ild2 dX0_weighSet_71 ?_
            refine fm_iald dX0_weighSet_72 ia_20 (by omega) (by omega) ?_
            rw [Int.toNat_natCast]
            try simp (disch := omega) only [fm_up_ne, fm_up_nj, fm_up_eq]
            try rw [e20]
            refine fm_icmp_ne (⟨by omega, by omega⟩) (⟨by omega, by omega⟩) 95 dX0_weighSet_73 (by decide) (fun h73 => ?_) (fun h73 => ?_)
            · refine J95 _ _ (fun k x hk => by rw [← hr1 k x hk]; repeat (first | rfl | rw [fm_up_k (by omega)])) ?_ ?_ ?_
              · try simp (disch := omega) only [fm_up_ne, fm_up_nj, fm_up_eq]
                try rw [e20]
                first
                  | (rw [if_pos (by omega)] <;> omega)
                  | (rw [if_neg (by omega)] <;> omega)
              · try simp (disch := omega) only [fm_up_ne, fm_up_nj, fm_up_eq]
                try rw [e21]
                first
                  | (rw [if_pos (by omega)] <;> omega)
                  | (rw [if_neg (by omega), if_pos (by omega)] <;> omega)
                  | (rw [if_neg (by omega), if_neg (by omega)] <;> omega)
              · first
                  | (rw [if_pos (by omega)] <;> omega)
                  | (rw [if_neg (by omega)] <;> omega)
            · refine fm_ald0 dX0_weighSet_76 ?_
              refine gr_0_2 dX0_weighSet_77 fd_X0_20 ?_
              refine fm_ild2 dX0_weighSet_80 ?_
              refine fm_dup2 dX0_weighSet_81 ?_
              refine fm_iald dX0_weighSet_82 ia_21 (by omega) (by omega) ?_
              rw [Int.toNat_natCast]
              try simp (disch := omega) only [fm_up_ne, fm_up_nj, fm_up_eq]
              try rw [e21]
              refine fm_ald0 dX0_weighSet_83 ?_
              refine gr_0_2 dX0_weighSet_84 fd_X0_20 ?_
              refine fm_ild2 dX0_weighSet_87 ?_
              refine fm_iconst dX0_weighSet_88 ?_
              refine fm_ild3 dX0_weighSet_89 ?_
              refine fm_ishl ((2 ^ s : Nat) : Int) (bi_shl (by omega)) dX0_weighSet_90 ?_
              refine fm_ior ((U + 2 ^ s : Nat) : Int) (bi_or (by omega) (by omega) hbs) dX0_weighSet_91 ?_
              refine fm_iald dX0_weighSet_92 ia_21 (by omega) (by omega) ?_
              rw [Int.toNat_natCast]
              try simp (disch := omega) only [fm_up_ne, fm_up_nj, fm_up_eq]
              rw [f3]
              refine fm_iadd dX0_weighSet_93 ?_
              refine fm_iast dX0_weighSet_94 ia_21 (by omega) (by omega) ?_
              rw [Int.toNat_natCast]
              refine J95 _ _ (fun k x hk => by rw [← hr1 k x hk]; repeat (first | rfl | rw [fm_up_k (by omega)])) ?_ ?_ ?_
              · try simp (disch := omega) only [fm_up_ne, fm_up_nj, fm_up_eq]
                try rw [e20]
                first
                  | (rw [if_pos (by omega)] <;> omega)
                  | (rw [if_neg (by omega)] <;> omega)
              · try simp (disch := omega) only [fm_up_ne, fm_up_nj, fm_up_eq]
                try rw [e21]
                first
                  | (rw [if_pos (by omega)] <;> omega)
                  | (rw [if_neg (by omega), if_pos (by omega)] <;> omega)
                  | (rw [if_neg (by omega), if_neg (by omega)] <;> omega)
              · first
                  | (rw [if_pos (by omega)] <;> omega)
                  | (rw [if_neg (by omega)] <;> omega)
    · have hbs1 : bt U s = 1 := by have := bt_c U s; omega
      have gs : gfo U (xq μ N r U) (1000000, 0, 0) (s + 1) = gfo U (xq μ N r U) (1000000, 0, 0) s := by rw [gfo, if_neg hbs]
      rw [gs] at J95
      refine fm_ild3 dX0_weighSet_17 ?_
      refine fm_ild1 dX0_weighSet_18 ?_
      refine fm_icmp_ge (⟨by omega, by omega⟩) (⟨by omega, by omega⟩) 101 dX0_weighSet_19 (by decide) (fun h19 => ?_) (fun h19 => ?_)
      · exfalso; omega
      · refine fm_ild2 dX0_weighSet_22 ?_
        refine fm_ild3 dX0_weighSet_23 ?_
        refine fm_csI dX0_weighSet_24 cl_X0_45 (k_X0_isIn (by omega) (by omega)) rfl rfl (by decide) rfl rfl (Nat.le_of_ble_eq_true rfl) (fun z24 s24 q24 => ?_)
        obtain ⟨q24, rfl⟩ := q24
        refine fm_if_ne (⟨by omega, by omega⟩) 95 dX0_weighSet_27 (by decide) (fun h27 => ?_) (fun h27 => ?_)
        · exact J95 τ _ hr1 e20 e21 hb
        · exfalso; omega
set_option maxRecDepth 20000 in
set_option maxHeartbeats 4000000 in
theorem k_X0_weighSet {ω : fm_O} {σ : fm_Mem} {μ : fm_Mem} (hi : fj μ) (h : rel μ σ) {N U r : Nat} (hN : N < 7) (hU : U < 2 ^ N) (hr : r + 1 + pcn U N = N) (ht : tbo μ N σ (U + 1)) : fm_Met kc ω yX0_weighSet cX0_weighSet 5 none (fm_rm 2) [fm_r ω 18, fm_I (N : Int), fm_I (U : Int)] σ (fm_pN fun τ => (∀ k x, ¬ ((k = 20 ∨ k = 21) ∧ x = U) → τ k x = σ k x) ∧ τ 20 U = (dpt μ N (r + 1) U).1 ∧ τ 21 U = (dpt μ N (r + 1) U).2.1) := by
  refine fm_start (by decide) rfl (Nat.le_of_ble_eq_true rfl) [some (fm_r ω 18), some (fm_I (N : Int)), some (fm_I (U : Int)), none, none] rfl (fun Γ => ?_)
  have h64 := pow_64 N hN
  refine fm_ald0 dX0_weighSet_0 ?_
  refine gr_0_1 dX0_weighSet_1 fd_X0_16 ?_
  refine fm_ild2 dX0_weighSet_4 ?_
  refine fm_ldc (n := 1000000) ck_X0_44 (by decide) dX0_weighSet_5 ?_
  refine fm_iast dX0_weighSet_7 ia_20 (by omega) (by omega) ?_
  rw [Int.toNat_natCast]
  refine fm_ald0 dX0_weighSet_8 ?_
  refine gr_0_2 dX0_weighSet_9 fd_X0_20 ?_
  refine fm_ild2 dX0_weighSet_12 ?_
  refine fm_iconst dX0_weighSet_13 ?_
  refine fm_iast dX0_weighSet_14 ia_21 (by omega) (by omega) ?_
  rw [Int.toNat_natCast]
  refine fm_iconst dX0_weighSet_15 ?_
  refine fm_ist3 rfl dX0_weighSet_16 ?_
  refine l_ws hi h hN hU hr ht N 0 _ _ (by omega) (fun k x hk => by rw [fm_up_k (by omega), fm_up_k (by omega)]) ?_ ?_ ?_
  · simp (disch := omega) only [fm_up_ne, fm_up_eq]
    rfl
  · rw [fm_up_eq]
    rfl
  · show 0 ≤ (1000000 : Int) ∧ (1000000 : Int) ≤ 1000000
    omega
