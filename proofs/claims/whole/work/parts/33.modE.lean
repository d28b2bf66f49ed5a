/-! order: the model's side -/
theorem fct_b : ∀ r, r < 7 → fct r ≤ 720 := by decide
theorem fct_s (r : Nat) : fct (r + 1) = (r + 1) * fct r := rfl
theorem pow8_b : ∀ i, i < 7 → 8 ^ i ≤ 262144 := by decide
theorem pow8_i : ∀ i : Nat, i < 7 → (8 : Int) ^ i ≤ 262144 := by decide +kernel
theorem pk_st1 {U f a v : Nat} (h : bt U v = 1) : pk U (f + 1) a v = pk U f a (v + 1) := by rw [pk, if_pos h]
theorem pk_st2 {U f a v : Nat} (h : ¬ bt U v = 1) (ha : a ≠ 0) : pk U (f + 1) a v = pk U f (a - 1) (v + 1) := by rw [pk, if_neg h, if_neg ha]
theorem pk_st3 {U f v : Nat} (h : ¬ bt U v = 1) : pk U (f + 1) 0 v = v := by rw [pk, if_neg h, if_pos rfl]
theorem bi_or8 {a v i : Nat} (ha : a < 8 ^ i) (hv : v < 8) (hi : i < 6) : Int32.ofInt (a : Int) ||| Int32.ofInt ((v * 8 ^ i : Nat) : Int) = Int32.ofInt ((a + v * 8 ^ i : Nat) : Int) := by
  have h8 := pow8_b i (by omega)
  have h9 : v * 8 ^ i ≤ 7 * 8 ^ i := Nat.mul_le_mul_right _ (by omega)
  rw [fm_nn (by omega), fm_nn (by omega), fm_nn (by omega), fa_or]
  have e8 : 8 ^ i = 2 ^ (3 * i) := by rw [Nat.pow_mul]
  rw [Nat.or_comm, show v * 8 ^ i = 2 ^ (3 * i) * v by rw [e8, Nat.mul_comm], ← Nat.two_pow_add_eq_or_of_lt (by rw [← e8]; exact ha), Nat.add_comm]
theorem bi_shl8 {v i : Nat} (hv : v < 8) (hi : i < 6) : Int32.ofInt (v : Int) <<< (Int32.ofInt (3 * (i : Int)) &&& 31) = Int32.ofInt ((v * 8 ^ i : Nat) : Int) := by
  have h8 := pow8_b i (by omega)
  have h9 : v * 8 ^ i ≤ 7 * 8 ^ i := Nat.mul_le_mul_right _ (by omega)
  have e8 : 8 ^ i = 2 ^ (3 * i) := by rw [Nat.pow_mul]
  rw [show (3 * (i : Int)) = ((3 * i : Nat) : Int) by omega, fm_nn (m := v) (by omega), pk_shlN _ (3 * i) (sh_am (by omega)) (by rw [← e8]; omega), fm_nn (by omega), e8]

theorem qsn_cong {μ μ' : fm_Mem} {f : Nat → Int} {n : Int} : ∀ {k : Nat}, (∀ q, q < k → μ' 11 q = μ 11 q ∧ μ' 12 q = μ 12 q ∧ μ' 13 q = μ 13 q) → qsn μ' f n k = qsn μ f n k
  | 0, _ => rfl
  | k + 1, h => by
    obtain ⟨e1, e2, e3⟩ := h k (by omega)
    rw [qsn, qsn, qsn_cong (fun q hq => h q (by omega)), e1, e2, e3]
set_option maxRecDepth 20000 in
set_option maxHeartbeats 4000000 in
theorem l_or1 {ω : fm_O} {σ : fm_Mem} {Γ : fm_G} {P : Option Value → fm_Mem → Prop} {N x0 : Nat} (hN : N < 7) (hN2 : 2 ≤ N) (hK : ∀ o4 : Option Value, fm_W km ω Γ (cX9_ordered, RX9, fm_rm 0, 10, (some .int)) P σ 22 [some (fm_r ω 0), some (fm_I (N : Int)), some (fm_I (x0 : Int)), some (fm_I ((fct (N - 1)) : Int)), o4, none, none, none, none, none] []) : ∀ (d k : Nat), k + d = N → 2 ≤ k → fm_W km ω Γ (cX9_ordered, RX9, fm_rm 0, 10, (some .int)) P σ 5 [some (fm_r ω 0), some (fm_I (N : Int)), some (fm_I (x0 : Int)), some (fm_I ((fct (k - 1)) : Int)), some (fm_I ((k) : Int)), none, none, none, none, none] [] := by
  intro d
  induction d with
  | zero =>
    intro k hk h2
    have e : k = N := by omega
    subst e
    refine fm_ild4 dX9_ordered_5 ?_
    refine fm_ild1 dX9_ordered_7 ?_
    refine fm_icmp_ge (⟨by omega, by omega⟩) (⟨by omega, by omega⟩) 22 dX9_ordered_8 (by decide) (fun h8 => ?_) (fun h8 => ?_)
    · exact hK _
    · exfalso; omega
  | succ d ih =>
    intro k hk h2
    have e : (fct (k - 1) : Int) * (k : Int) = (fct (k + 1 - 1) : Int) := by
      rw [show k + 1 - 1 = (k - 1) + 1 by omega, fct_s, show (k - 1) + 1 = k by omega, Nat.mul_comm]
      push_cast
      rfl
    refine fm_ild4 dX9_ordered_5 ?_
    refine fm_ild1 dX9_ordered_7 ?_
    refine fm_icmp_ge (⟨by omega, by omega⟩) (⟨by omega, by omega⟩) 22 dX9_ordered_8 (by decide) (fun h8 => ?_) (fun h8 => ?_)
    · exfalso; omega
    · refine fm_ild3 dX9_ordered_11 ?_
      refine fm_ild4 dX9_ordered_12 ?_
      refine fm_imul dX9_ordered_14 ?_
      rw [e]
      refine fm_ist3 rfl dX9_ordered_15 ?_
      refine fm_inc4 rfl dX9_ordered_16 ?_
      refine fm_goto 5 dX9_ordered_19 (by decide) ?_
      rw [show (k : Int) + 1 = ((k + 1 : Nat) : Int) by omega]
      exact ih (k + 1) (by omega) (by omega)
set_option maxRecDepth 20000 in
set_option maxHeartbeats 4000000 in
theorem l_or2 {ω : fm_O} {σ : fm_Mem} {Γ : fm_G} {P : Option Value → fm_Mem → Prop} {N x0 U o i : Nat} {b3 x : Int} (hN : N < 7) (hU : U < 64) {a0 : Nat} (hK : ∀ o8 : Option Value, fm_W km ω Γ (cX9_ordered, RX9, fm_rm 0, 10, (some .int)) P σ 119 [some (fm_r ω 0), some (fm_I (N : Int)), some (fm_I (x0 : Int)), some (fm_I b3), some (fm_I x), some (fm_I ((U) : Int)), some (fm_I ((o) : Int)), some (fm_I ((i) : Int)), o8, some (fm_I ((pick U a0) : Int))] []) : ∀ (d a v : Nat), v + d = 6 → pk U d a v = pick U a0 → a + (v - pcn U v) < N - pcn U N → v ≤ N → fm_W km ω Γ (cX9_ordered, RX9, fm_rm 0, 10, (some .int)) P σ 76 [some (fm_r ω 0), some (fm_I (N : Int)), some (fm_I (x0 : Int)), some (fm_I b3), some (fm_I x), some (fm_I ((U) : Int)), some (fm_I ((o) : Int)), some (fm_I ((i) : Int)), some (fm_I ((a) : Int)), some (fm_I ((v) : Int))] [] := by
  intro d
  induction d with
  | zero =>
    intro a v hv hp hc hvN
    exfalso
    have h1 := pcn_mono U v (N - v)
    rw [show v + (N - v) = N by omega] at h1
    have h2 := pcn_le U v
    omega
  | succ d ih =>
    intro a v hv hp hc hvN
    have h1 := pcn_mono U v (N - v)
    rw [show v + (N - v) = N by omega] at h1
    have h2 := pcn_le U v
    have hvn : v < N := by omega
    have hpc : pcn U (v + 1) = pcn U v + bt U v := rfl
    have hbc := bt_c U v
    refine fm_ild5 dX9_ordered_76 ?_
    refine fm_ild9 dX9_ordered_78 ?_
    refine fm_ishr ((U / 2 ^ v : Nat) : Int) (bi_shr (by omega) (by omega)) dX9_ordered_80 ?_
    refine fm_iconst dX9_ordered_81 ?_
    refine fm_iand (bt U v : Int) bi_1 dX9_ordered_82 ?_
    refine fm_iconst dX9_ordered_83 ?_
    refine fm_icmp_eq (⟨by omega, by omega⟩) (⟨by omega, by omega⟩) 92 dX9_ordered_84 (by decide) (fun h84 => ?_) (fun h84 => ?_)
    · refine fm_ild8 dX9_ordered_92 ?_
      refine fm_ild5 dX9_ordered_94 ?_
      refine fm_ild9 dX9_ordered_96 ?_
      refine fm_ishr ((U / 2 ^ v : Nat) : Int) (bi_shr (by omega) (by omega)) dX9_ordered_98 ?_
      refine fm_iconst dX9_ordered_99 ?_
      refine fm_iand (bt U v : Int) bi_1 dX9_ordered_100 ?_
      refine fm_iconst dX9_ordered_101 ?_
      refine fm_icmp_ne (⟨by omega, by omega⟩) (⟨by omega, by omega⟩) 109 dX9_ordered_102 (by decide) (fun h102 => ?_) (fun h102 => ?_)
      · refine fm_iconst dX9_ordered_109 ?_
        refine fm_isub dX9_ordered_110 ?_
        refine fm_ist8 rfl dX9_ordered_111 ?_
        refine fm_inc9 rfl dX9_ordered_113 ?_
        refine fm_goto 76 dX9_ordered_116 (by decide) ?_
        rw [show (v : Int) + 1 = ((v + 1 : Nat) : Int) by omega]
        first
          | (exfalso; omega)
          | (rw [show (a : Int) - 0 = ((a : Nat) : Int) by omega]
             exact ih a (v + 1) (by omega) (by rw [← hp, pk_st1 (by omega)]) (by omega) (by omega))
          | (rw [show (a : Int) - 1 = ((a - 1 : Nat) : Int) by omega]
             exact ih (a - 1) (v + 1) (by omega) (by rw [← hp, pk_st2 (by omega) (by omega)]) (by omega) (by omega))
      · refine fm_iconst dX9_ordered_105 ?_
        refine fm_goto 110 dX9_ordered_106 (by decide) ?_
        refine fm_isub dX9_ordered_110 ?_
        refine fm_ist8 rfl dX9_ordered_111 ?_
        refine fm_inc9 rfl dX9_ordered_113 ?_
        refine fm_goto 76 dX9_ordered_116 (by decide) ?_
        rw [show (v : Int) + 1 = ((v + 1 : Nat) : Int) by omega]
        first
          | (exfalso; omega)
          | (rw [show (a : Int) - 0 = ((a : Nat) : Int) by omega]
             exact ih a (v + 1) (by omega) (by rw [← hp, pk_st1 (by omega)]) (by omega) (by omega))
          | (rw [show (a : Int) - 1 = ((a - 1 : Nat) : Int) by omega]
             exact ih (a - 1) (v + 1) (by omega) (by rw [← hp, pk_st2 (by omega) (by omega)]) (by omega) (by omega))
    · refine fm_ild8 dX9_ordered_87 ?_
      refine fm_if_le (⟨by omega, by omega⟩) 119 dX9_ordered_89 (by decide) (fun h89 => ?_) (fun h89 => ?_)
      · have ea : a = 0 := by omega
        subst ea
        rw [pk_st3 (by omega)] at hp
        rw [hp]
        exact hK _
      · refine fm_ild8 dX9_ordered_92 ?_
        refine fm_ild5 dX9_ordered_94 ?_
        refine fm_ild9 dX9_ordered_96 ?_
        refine fm_ishr ((U / 2 ^ v : Nat) : Int) (bi_shr (by omega) (by omega)) dX9_ordered_98 ?_
        refine fm_iconst dX9_ordered_99 ?_
        refine fm_iand (bt U v : Int) bi_1 dX9_ordered_100 ?_
        refine fm_iconst dX9_ordered_101 ?_
        refine fm_icmp_ne (⟨by omega, by omega⟩) (⟨by omega, by omega⟩) 109 dX9_ordered_102 (by decide) (fun h102 => ?_) (fun h102 => ?_)
        · refine fm_iconst dX9_ordered_109 ?_
          refine fm_isub dX9_ordered_110 ?_
          refine fm_ist8 rfl dX9_ordered_111 ?_
          refine fm_inc9 rfl dX9_ordered_113 ?_
          refine fm_goto 76 dX9_ordered_116 (by decide) ?_
          rw [show (v : Int) + 1 = ((v + 1 : Nat) : Int) by omega]
          first
            | (exfalso; omega)
            | (rw [show (a : Int) - 0 = ((a : Nat) : Int) by omega]
               exact ih a (v + 1) (by omega) (by rw [← hp, pk_st1 (by omega)]) (by omega) (by omega))
            | (rw [show (a : Int) - 1 = ((a - 1 : Nat) : Int) by omega]
               exact ih (a - 1) (v + 1) (by omega) (by rw [← hp, pk_st2 (by omega) (by omega)]) (by omega) (by omega))
        · refine fm_iconst dX9_ordered_105 ?_
          refine fm_goto 110 dX9_ordered_106 (by decide) ?_
          refine fm_isub dX9_ordered_110 ?_
          refine fm_ist8 rfl dX9_ordered_111 ?_
          refine fm_inc9 rfl dX9_ordered_113 ?_
          refine fm_goto 76 dX9_ordered_116 (by decide) ?_
          rw [show (v : Int) + 1 = ((v + 1 : Nat) : Int) by omega]
          first
            | (exfalso; omega)
            | (rw [show (a : Int) - 0 = ((a : Nat) : Int) by omega]
               exact ih a (v + 1) (by omega) (by rw [← hp, pk_st1 (by omega)]) (by omega) (by omega))
            | (rw [show (a : Int) - 1 = ((a - 1 : Nat) : Int) by omega]
               exact ih (a - 1) (v + 1) (by omega) (by rw [← hp, pk_st2 (by omega) (by omega)]) (by omega) (by omega))
set_option maxRecDepth 20000 in
set_option maxHeartbeats 4000000 in
theorem l_or3 {ω : fm_O} {Γ : fm_G} {N x0 : Nat} (hN : N < 7) {P : Option Value → fm_Mem → Prop} : ∀ (r U x o : Nat) (τ : fm_Mem) (o8 o9 : Option Value), U < 2 ^ N → r + pcn U N = N → x < fct r → o < 8 ^ (N - r) → (∀ (z : Int) (τ2 : fm_Mem), z = (o : Int) + ocd N r U x → (∀ k q, k ≠ 21 → τ2 k q = τ k q) → τ2 21 = osp N r U x (τ 21) → P (some (fm_I z)) τ2) → fm_W km ω Γ (cX9_ordered, RX9, fm_rm 0, 10, (some .int)) P τ 34 [some (fm_r ω 0), some (fm_I (N : Int)), some (fm_I (x0 : Int)), some (fm_I ((fct (r - 1)) : Int)), some (fm_I ((x) : Int)), some (fm_I ((U) : Int)), some (fm_I ((o) : Int)), some (fm_I ((N - r : Nat) : Int)), o8, o9] [] := by
  have h64 := pow_64 N hN
  intro r
  induction r with
  | zero =>
    intro U x o τ o8 o9 hU hr hx ho hK
    refine fm_ild7 dX9_ordered_34 ?_
    refine fm_ild1 dX9_ordered_36 ?_
    refine fm_icmp_ge (⟨by omega, by omega⟩) (⟨by omega, by omega⟩) 155 dX9_ordered_37 (by decide) (fun h37 => ?_) (fun h37 => ?_)
    · refine fm_ild6 dX9_ordered_155 ?_
      exact fm_iret dX9_ordered_157 rfl (hK _ τ (by rw [ocd]; omega) (fun _ _ _ => rfl) rfl)
    · exfalso; omega
  | succ r ih =>
    intro U x o τ o8 o9 hU hr hx ho hK
    have hfp := fct_pos r
    have hfb := fct_b r (by omega)
    have hfb2 := fct_b (r + 1) (by omega)
    have hp := pcn_le U N
    have ha : x / fct r < N - pcn U N := by
      rw [show N - pcn U N = r + 1 by omega]
      exact Nat.div_lt_of_lt_mul (by rw [Nat.mul_comm]; exact hx)
    obtain ⟨p1, p2⟩ := pick_o U (by omega) N hN (x / fct r) ha
    have hlt := lt_add N hN U hU _ p1 p2
    have hpc := pcn_add U (by omega) N hN _ p1 p2
    have hmod := Nat.mod_lt x hfp
    have hx720 : x < 720 := by omega
    have h8 := pow8_b (N - (r + 1)) (by omega)
    rw [show r + 1 - 1 = r by omega]
    have J72 : ∀ o9 : Option Value, fm_W km ω Γ (cX9_ordered, RX9, fm_rm 0, 10, (some .int)) P τ 72 [some (fm_r ω 0), some (fm_I (N : Int)), some (fm_I (x0 : Int)), some (fm_I ((fct r) : Int)), some (fm_I ((x % fct r : Nat) : Int)), some (fm_I ((U) : Int)), some (fm_I ((o) : Int)), some (fm_I ((N - (r + 1) : Nat) : Int)), some (fm_I ((x / fct r : Nat) : Int)), o9] [fm_I (fct (r - 1) : Int)] := by
      intro o9
      have J119 : ∀ o8 : Option Value, fm_W km ω Γ (cX9_ordered, RX9, fm_rm 0, 10, (some .int)) P τ 119 [some (fm_r ω 0), some (fm_I (N : Int)), some (fm_I (x0 : Int)), some (fm_I ((fct (r - 1)) : Int)), some (fm_I ((x % fct r : Nat) : Int)), some (fm_I ((U) : Int)), some (fm_I ((o) : Int)), some (fm_I ((N - (r + 1) : Nat) : Int)), o8, some (fm_I ((pick U (x / fct r)) : Int))] [] := by
        intro o8
        refine fm_ild5 dX9_ordered_119 ?_
        refine fm_iconst dX9_ordered_121 ?_
        refine fm_ild9 dX9_ordered_122 ?_
        refine fm_ishl ((2 ^ pick U (x / fct r) : Nat) : Int) (bi_shl (by omega)) dX9_ordered_124 ?_
        refine fm_ior ((U + 2 ^ pick U (x / fct r) : Nat) : Int) (bi_or (by omega) (by omega) p2) dX9_ordered_125 ?_
        refine fm_ist5 rfl dX9_ordered_126 ?_
        refine fm_ald0 dX9_ordered_128 ?_
        refine gr_8_24 dX9_ordered_129 fd_X9_70 ?_
        refine fm_ild9 dX9_ordered_132 ?_
        refine fm_ild7 dX9_ordered_134 ?_
        refine fm_iast dX9_ordered_136 ma_21 (by omega) (by omega) ?_
        rw [Int.toNat_natCast]
        refine fm_ild6 dX9_ordered_137 ?_
        refine fm_ild9 dX9_ordered_139 ?_
        refine fm_iconst dX9_ordered_141 ?_
        refine fm_ild7 dX9_ordered_142 ?_
        refine fm_imul dX9_ordered_144 ?_
        refine fm_ishl ((pick U (x / fct r) * 8 ^ (N - (r + 1)) : Nat) : Int) (bi_shl8 (by omega) (by omega)) dX9_ordered_145 ?_
        refine fm_ior ((o + pick U (x / fct r) * 8 ^ (N - (r + 1)) : Nat) : Int) (bi_or8 ho (by omega) (by omega)) dX9_ordered_146 ?_
        refine fm_ist6 rfl dX9_ordered_147 ?_
        refine fm_inc7 rfl dX9_ordered_149 ?_
        refine fm_goto 34 dX9_ordered_152 (by decide) ?_
        rw [show ((N - (r + 1) : Nat) : Int) + 1 = ((N - r : Nat) : Int) by omega]
        refine ih (U + 2 ^ pick U (x / fct r)) (x % fct r) _ _ _ _ hlt (by omega) hmod ?_ (fun z τ2 e1 e2 e3 => hK z τ2 ?_ (fun k q hk => by rw [e2 k q hk, fm_up_ne hk]) ?_)
        · have e9 : N - r = (N - (r + 1)) + 1 := by omega
          have h7 : pick U (x / fct r) * 8 ^ (N - (r + 1)) ≤ 7 * 8 ^ (N - (r + 1)) := Nat.mul_le_mul_right _ (by omega)
          rw [e9, Nat.pow_succ]
          omega
        · rw [e1, ocd]
          push_cast
          omega
        · rw [e3, osp, lup_up]
      refine fm_ist3 rfl dX9_ordered_72 ?_
      refine fm_iconst dX9_ordered_73 ?_
      refine fm_ist9 rfl dX9_ordered_74 ?_
      exact l_or2 hN (by omega) (a0 := x / fct r) (fun o8 => J119 o8) 6 (x / fct r) 0 (by omega) rfl (by rw [pcn]; omega) (by omega)
    refine fm_ild7 dX9_ordered_34 ?_
    refine fm_ild1 dX9_ordered_36 ?_
    refine fm_icmp_ge (⟨by omega, by omega⟩) (⟨by omega, by omega⟩) 155 dX9_ordered_37 (by decide) (fun h37 => ?_) (fun h37 => ?_)
    · exfalso; omega
    · refine fm_ild4 dX9_ordered_40 ?_
      refine fm_ild3 dX9_ordered_42 ?_
      refine fm_idiv ((x / fct r : Nat) : Int) (by rw [fm_nn (by omega)]; exact nI_ne0 hfp (by omega)) (by rw [fm_divL (by omega) (by omega) (by omega) (by omega)]; rfl) dX9_ordered_43 ?_
      refine fm_ist8 rfl dX9_ordered_44 ?_
      refine fm_ild4 dX9_ordered_46 ?_
      refine fm_ild3 dX9_ordered_48 ?_
      refine fm_irem ((x % fct r : Nat) : Int) (by rw [fm_nn (by omega)]; exact nI_ne0 hfp (by omega)) (by rw [fm_remL (by omega) (by omega) (by omega) (by omega)]; rfl) dX9_ordered_49 ?_
      refine fm_ist4 rfl dX9_ordered_50 ?_
      refine fm_ild7 dX9_ordered_52 ?_
      refine fm_ild1 dX9_ordered_54 ?_
      refine fm_iconst dX9_ordered_55 ?_
      refine fm_isub dX9_ordered_56 ?_
      refine fm_icmp_ge (⟨by omega, by omega⟩) (⟨by omega, by omega⟩) 71 dX9_ordered_57 (by decide) (fun h57 => ?_) (fun h57 => ?_)
      · refine fm_iconst dX9_ordered_71 ?_
        refine fm_top (show (1 : Int) = (fct (r - 1) : Int) by rw [show r - 1 = 0 by omega]; rfl) ?_
        exact J72 _
      · have hby : Int32.ofInt (fct r : Int) / Int32.ofInt ((N : Int) - 1 - ((N - (r + 1) : Nat) : Int)) = Int32.ofInt (fct (r - 1) : Int) := by
          rw [show (N : Int) - 1 - ((N - (r + 1) : Nat) : Int) = (r : Int) by omega, fm_divL (by omega) (by omega) (by omega) (by omega)]
          congr 1
          obtain ⟨m, rfl⟩ : ∃ m, r = m + 1 := ⟨r - 1, by omega⟩
          rw [fct_s, show m + 1 - 1 = m by omega]
          push_cast
          exact Int.mul_ediv_cancel_left _ (by omega)
        refine fm_ild3 dX9_ordered_60 ?_
        refine fm_ild1 dX9_ordered_61 ?_
        refine fm_iconst dX9_ordered_62 ?_
        refine fm_isub dX9_ordered_63 ?_
        refine fm_ild7 dX9_ordered_64 ?_
        refine fm_isub dX9_ordered_66 ?_
        refine fm_idiv (fct (r - 1) : Int) (fun q => by rw [fm_z0] at q; have := fm_inj ⟨by omega, by omega⟩ ⟨by omega, by omega⟩ q; omega) hby dX9_ordered_67 ?_
        refine fm_goto 72 dX9_ordered_68 (by decide) ?_
        exact J72 _
set_option maxRecDepth 20000 in
set_option maxHeartbeats 4000000 in
theorem k_X9_ordered {ω : fm_O} {σ : fm_Mem} {N x0 : Nat} (hN : N < 7) (hN2 : 2 ≤ N) (hx : x0 < fct N) : fm_Met km ω yX9_ordered cX9_ordered 10 (some .int) (fm_rm 0) [fm_r ω 0, fm_I (N : Int), fm_I (x0 : Int)] σ (fm_pI fun z σ' => z = ocd N N 0 x0 ∧ (∀ k q, k ≠ 21 → σ' k q = σ k q) ∧ σ' 21 = osp N N 0 x0 (σ 21)) := by
  refine fm_start (by decide) rfl (Nat.le_of_ble_eq_true rfl) [some (fm_r ω 0), some (fm_I (N : Int)), some (fm_I (x0 : Int)), none, none, none, none, none, none, none] rfl (fun Γ => ?_)
  refine fm_iconst dX9_ordered_0 ?_
  refine fm_ist3 rfl dX9_ordered_1 ?_
  refine fm_iconst dX9_ordered_2 ?_
  refine fm_ist4 rfl dX9_ordered_3 ?_
  refine l_or1 hN hN2 (fun o4 => ?_) (N - 2) 2 (by omega) (by omega)
  refine fm_ild2 dX9_ordered_22 ?_
  refine fm_ist4 rfl dX9_ordered_23 ?_
  refine fm_iconst dX9_ordered_25 ?_
  refine fm_ist5 rfl dX9_ordered_26 ?_
  refine fm_iconst dX9_ordered_28 ?_
  refine fm_ist6 rfl dX9_ordered_29 ?_
  refine fm_iconst dX9_ordered_31 ?_
  refine fm_ist7 rfl dX9_ordered_32 ?_
  have hl := l_or3 (ω := ω) (Γ := Γ) (N := N) (x0 := x0) hN (P := fm_pI fun z σ' => z = ocd N N 0 x0 ∧ (∀ k q, k ≠ 21 → σ' k q = σ k q) ∧ σ' 21 = osp N N 0 x0 (σ 21)) N 0 x0 0 σ none none (Nat.two_pow_pos N) (by rw [pcn_zero N hN, Nat.add_zero]) hx (by rw [Nat.sub_self]; decide) (fun z τ2 e1 e2 e3 => ⟨z, rfl, by rw [e1]; simp, e2, e3⟩)
  rw [Nat.sub_self] at hl
  exact hl
theorem bi_shr8 {O i : Int} (h0 : 0 ≤ O) (h1 : O < 2147483648) (hi : 0 ≤ i ∧ i < 6) : Int32.ofInt O >>> (Int32.ofInt (3 * i) &&& 31) = Int32.ofInt (O / 8 ^ i.toNat) := by
  obtain ⟨m, rfl⟩ := Int.eq_ofNat_of_zero_le h0
  obtain ⟨k, rfl⟩ := Int.eq_ofNat_of_zero_le hi.1
  rw [show (3 * (k : Int)) = ((3 * k : Nat) : Int) by omega, bi_shr (by omega) (by omega), Int.toNat_natCast, Nat.pow_mul]
  congr 1
theorem osp_b {N : Nat} (hN : N < 7) : ∀ (r U x : Nat) (f : Nat → Int), U < 2 ^ N → r + pcn U N = N → x < fct r → (∀ t, t < 6 → bt U t = 1 → 0 ≤ f t ∧ f t < N) → ∀ t, t < N → t < 6 → 0 ≤ osp N r U x f t ∧ osp N r U x f t < N
  | 0, U, x, f, hU, hr, _, h, t, ht, ht6 => by
    rw [osp]
    refine h t ht6 ?_
    rw [pcn_full N hN U hU (by omega), bt_full N hN t ht6, if_pos ht]
  | r + 1, U, x, f, hU, hr, hx, h, t, ht, ht6 => by
    have h64 := pow_64 N hN
    have hfp := fct_pos r
    have ha : x / fct r < N - pcn U N := by
      rw [show N - pcn U N = r + 1 by omega]
      exact Nat.div_lt_of_lt_mul (by rw [Nat.mul_comm]; exact hx)
    obtain ⟨p1, p2⟩ := pick_o U (by omega) N hN (x / fct r) ha
    rw [osp]
    refine osp_b hN r (U + 2 ^ pick U (x / fct r)) (x % fct r) _ (lt_add N hN U hU _ p1 p2) (by rw [pcn_add U (by omega) N hN _ p1 p2]; omega) (Nat.mod_lt _ hfp) (fun t ht hb => ?_) t ht ht6
    rw [bt_add U (by omega) _ (by omega) p2 t ht] at hb
    unfold lup
    by_cases e : t = pick U (x / fct r)
    · rw [if_pos e]; omega
    · rw [if_neg e]
      rw [if_neg e] at hb
      exact h t ht hb
theorem ocs_b {μ : fm_Mem} (hf : fi μ) (N : Nat) (hN : N < 7) : ∀ r U x, 0 ≤ ocs μ N r U x ∧ ocs μ N r U x ≤ 12000 * (r : Int)
  | 0, _, _ => by rw [ocs]; omega
  | r + 1, U, x => by
    have h1 := ocs_b hf N hN r (U + 2 ^ pick U (x / fct r)) (x % fct r)
    have h2 := dsm_b hf U (pick U (x / fct r)) N
    rw [ocs]
    omega
theorem dpt_o {μ : fm_Mem} (hf : fi μ) {N : Nat} (hN : N < 7) : ∀ (r U : Nat), U < 2 ^ N → r + pcn U N = N → 0 ≤ (dpt μ N r U).2.2 ∧ (dpt μ N r U).2.2 + 8 ^ (N - r) ≤ 8 ^ N
  | 0, U, _, _ => by rw [dpt]; simp
  | r + 1, U, hU, hr => by
    have h64 := pow_64 N hN
    obtain ⟨s, a1, a2, a3, a4, a5⟩ := dpt_arg hf hN (r := r) hU hr
    obtain ⟨i1, i2⟩ := dpt_o hf hN r (U + 2 ^ s) (lt_add N hN U hU s a1 a2) (by rw [pcn_add U (by omega) N hN s a1 a2]; omega)
    have hp : (0 : Int) < 8 ^ (N - (r + 1)) := Int.pow_pos (by decide)
    have h7 : (s : Int) * 8 ^ (N - (r + 1)) ≤ 7 * 8 ^ (N - (r + 1)) := Int.mul_le_mul_of_nonneg_right (by omega) (by omega)
    have h0 : 0 ≤ (s : Int) * 8 ^ (N - (r + 1)) := Int.mul_nonneg (by omega) (by omega)
    rw [a4]
    rw [show N - r = (N - (r + 1)) + 1 by omega, Int.pow_succ] at i2
    omega
set_option maxRecDepth 20000 in
set_option maxHeartbeats 4000000 in
theorem l_mq {ω : fm_O} {σ : fm_Mem} {Γ : fm_G} (hf : fi σ) {n : Int} (hn : 0 ≤ n ∧ n ≤ 6) (hs : ∀ v : Nat, (v : Int) < n → 0 ≤ σ 21 v ∧ σ 21 v < 10) : ∀ (d k : Nat) (b : Int) (o4 : Option Value), (k : Int) + d = σ 0 12 → b = qsn σ (σ 21) n k → fm_W km ω Γ (cX9_quarrel, RX9, fm_rm 0, 5, (some .int)) (fm_pI fun z σ' => z = qsn σ (σ 21) n (σ 0 12).toNat ∧ σ = σ') σ 4 [some (fm_r ω 0), some (fm_I n), some (fm_I b), some (fm_I (k : Int)), o4] [] := by
  have b12 := hf.2.2.2.2.2.2.2.2.2.2.2.1
  intro d
  induction d with
  | zero =>
    intro k b o4 hk hb
    refine fm_ild3 dX9_quarrel_4 ?_
    refine fm_ald0 dX9_quarrel_5 ?_
    refine gi_8_12 dX9_quarrel_6 fd_X9_146 ?_
    refine fm_icmp_ge (⟨by omega, by omega⟩) (⟨by omega, by omega⟩) 88 dX9_quarrel_9 (by decide) (fun h9 => ?_) (fun h9 => ?_)
    · refine fm_ild2 dX9_quarrel_88 ?_
      exact fm_iretI dX9_quarrel_89 rfl ⟨by rw [hb, show (σ 0 12).toNat = k by omega], rfl⟩
    · exfalso; omega
  | succ d ih =>
    intro k b o4 hk hb
    obtain ⟨c1, c2, c3⟩ := hf.2.2.2.2.2.2.2.2.2.2.2.2.1 k
    have s1 := hs (σ 11 k).toNat
    have s2 := hs (σ 12 k).toNat
    have J80 : ∀ v : Int, v = (if (σ 11 k < n ∧ σ 12 k < n) ∧ σ 21 (σ 12 k).toNat < σ 21 (σ 11 k).toNat then σ 13 k else 0) → ∀ o4 : Option Value, fm_W km ω Γ (cX9_quarrel, RX9, fm_rm 0, 5, (some .int)) (fm_pI fun z σ' => z = qsn σ (σ 21) n (σ 0 12).toNat ∧ σ = σ') σ 80 [some (fm_r ω 0), some (fm_I n), some (fm_I b), some (fm_I (k : Int)), o4] [fm_I v, fm_I b] := by
      intro v hv o4
      refine fm_iadd dX9_quarrel_80 ?_
      refine fm_ist2 rfl dX9_quarrel_81 ?_
      refine fm_inc3 rfl dX9_quarrel_82 ?_
      refine fm_goto 4 dX9_quarrel_85 (by decide) ?_
      rw [show (k : Int) + 1 = ((k + 1 : Nat) : Int) by omega]
      refine ih (k + 1) _ _ (by omega) ?_
      rw [qsn, hv, hb]
    refine fm_ild3 dX9_quarrel_4 ?_
    refine fm_ald0 dX9_quarrel_5 ?_
    refine gi_8_12 dX9_quarrel_6 fd_X9_146 ?_
    refine fm_icmp_ge (⟨by omega, by omega⟩) (⟨by omega, by omega⟩) 88 dX9_quarrel_9 (by decide) (fun h9 => ?_) (fun h9 => ?_)
    · exfalso; omega
    · refine fm_ald0 dX9_quarrel_12 ?_
      refine gr_8_13 dX9_quarrel_13 fd_X9_40 ?_
      refine fm_ild3 dX9_quarrel_16 ?_
      refine fm_iald dX9_quarrel_17 ma_11 (by omega) (by omega) ?_
      rw [Int.toNat_natCast]
      refine fm_ild1 dX9_quarrel_18 ?_
      refine fm_icmp_ge (⟨by omega, by omega⟩) (⟨by omega, by omega⟩) 36 dX9_quarrel_19 (by decide) (fun h19 => ?_) (fun h19 => ?_)
      · refine fm_iconst dX9_quarrel_36 ?_
        refine fm_ist4 rfl dX9_quarrel_37 ?_
        refine fm_ild2 dX9_quarrel_39 ?_
        refine fm_ild4 dX9_quarrel_40 ?_
        refine fm_if_eq (⟨by omega, by omega⟩) 79 dX9_quarrel_42 (by decide) (fun h42 => ?_) (fun h42 => ?_)
        · refine fm_iconst dX9_quarrel_79 ?_
          refine J80 _ ?_ _
          first
            | (exfalso; omega)
            | (rw [if_pos (by omega)]; done)
            | (rw [if_neg (by omega)]; done)
        · refine fm_ald0 dX9_quarrel_45 ?_
          refine gr_8_24 dX9_quarrel_46 fd_X9_70 ?_
          refine fm_ald0 dX9_quarrel_49 ?_
          refine gr_8_13 dX9_quarrel_50 fd_X9_40 ?_
          refine fm_ild3 dX9_quarrel_53 ?_
          refine fm_iald dX9_quarrel_54 ma_11 (by omega) (by omega) ?_
          try rw [Int.toNat_natCast]
          refine fm_iald dX9_quarrel_55 ma_21 (by omega) (by omega) ?_
          refine fm_ald0 dX9_quarrel_56 ?_
          refine gr_8_24 dX9_quarrel_57 fd_X9_70 ?_
          refine fm_ald0 dX9_quarrel_60 ?_
          refine gr_8_14 dX9_quarrel_61 fd_X9_43 ?_
          refine fm_ild3 dX9_quarrel_64 ?_
          refine fm_iald dX9_quarrel_65 ma_12 (by omega) (by omega) ?_
          try rw [Int.toNat_natCast]
          refine fm_iald dX9_quarrel_66 ma_21 (by omega) (by omega) ?_
          refine fm_icmp_le (⟨by omega, by omega⟩) (⟨by omega, by omega⟩) 79 dX9_quarrel_67 (by decide) (fun h67 => ?_) (fun h67 => ?_)
          · refine fm_iconst dX9_quarrel_79 ?_
            refine J80 _ ?_ _
            first
              | (exfalso; omega)
              | (rw [if_pos (by omega)]; done)
              | (rw [if_neg (by omega)]; done)
          · refine fm_ald0 dX9_quarrel_70 ?_
            refine gr_8_15 dX9_quarrel_71 fd_X9_46 ?_
            refine fm_ild3 dX9_quarrel_74 ?_
            refine fm_iald dX9_quarrel_75 ma_13 (by omega) (by omega) ?_
            try rw [Int.toNat_natCast]
            refine fm_goto 80 dX9_quarrel_76 (by decide) ?_
            refine J80 _ ?_ _
            first
              | (exfalso; omega)
              | (rw [if_pos (by omega)]; done)
              | (rw [if_neg (by omega)]; done)
      · refine fm_ald0 dX9_quarrel_22 ?_
        refine gr_8_14 dX9_quarrel_23 fd_X9_43 ?_
        refine fm_ild3 dX9_quarrel_26 ?_
        refine fm_iald dX9_quarrel_27 ma_12 (by omega) (by omega) ?_
        rw [Int.toNat_natCast]
        refine fm_ild1 dX9_quarrel_28 ?_
        refine fm_icmp_ge (⟨by omega, by omega⟩) (⟨by omega, by omega⟩) 36 dX9_quarrel_29 (by decide) (fun h29 => ?_) (fun h29 => ?_)
        · refine fm_iconst dX9_quarrel_36 ?_
          refine fm_ist4 rfl dX9_quarrel_37 ?_
          refine fm_ild2 dX9_quarrel_39 ?_
          refine fm_ild4 dX9_quarrel_40 ?_
          refine fm_if_eq (⟨by omega, by omega⟩) 79 dX9_quarrel_42 (by decide) (fun h42 => ?_) (fun h42 => ?_)
          · refine fm_iconst dX9_quarrel_79 ?_
            refine J80 _ ?_ _
            first
              | (exfalso; omega)
              | (rw [if_pos (by omega)]; done)
              | (rw [if_neg (by omega)]; done)
          · refine fm_ald0 dX9_quarrel_45 ?_
            refine gr_8_24 dX9_quarrel_46 fd_X9_70 ?_
            refine fm_ald0 dX9_quarrel_49 ?_
            refine gr_8_13 dX9_quarrel_50 fd_X9_40 ?_
            refine fm_ild3 dX9_quarrel_53 ?_
            refine fm_iald dX9_quarrel_54 ma_11 (by omega) (by omega) ?_
            try rw [Int.toNat_natCast]
            refine fm_iald dX9_quarrel_55 ma_21 (by omega) (by omega) ?_
            refine fm_ald0 dX9_quarrel_56 ?_
            refine gr_8_24 dX9_quarrel_57 fd_X9_70 ?_
            refine fm_ald0 dX9_quarrel_60 ?_
            refine gr_8_14 dX9_quarrel_61 fd_X9_43 ?_
            refine fm_ild3 dX9_quarrel_64 ?_
            refine fm_iald dX9_quarrel_65 ma_12 (by omega) (by omega) ?_
            try rw [Int.toNat_natCast]
            refine fm_iald dX9_quarrel_66 ma_21 (by omega) (by omega) ?_
            refine fm_icmp_le (⟨by omega, by omega⟩) (⟨by omega, by omega⟩) 79 dX9_quarrel_67 (by decide) (fun h67 => ?_) (fun h67 => ?_)
            · refine fm_iconst dX9_quarrel_79 ?_
              refine J80 _ ?_ _
              first
                | (exfalso; omega)
                | (rw [if_pos (by omega)]; done)
                | (rw [if_neg (by omega)]; done)
            · refine fm_ald0 dX9_quarrel_70 ?_
              refine gr_8_15 dX9_quarrel_71 fd_X9_46 ?_
              refine fm_ild3 dX9_quarrel_74 ?_
              refine fm_iald dX9_quarrel_75 ma_13 (by omega) (by omega) ?_
              try rw [Int.toNat_natCast]
              refine fm_goto 80 dX9_quarrel_76 (by decide) ?_
              refine J80 _ ?_ _
              first
                | (exfalso; omega)
                | (rw [if_pos (by omega)]; done)
                | (rw [if_neg (by omega)]; done)
        · refine fm_iconst dX9_quarrel_32 ?_
          refine fm_goto 37 dX9_quarrel_33 (by decide) ?_
          refine fm_ist4 rfl dX9_quarrel_37 ?_
          refine fm_ild2 dX9_quarrel_39 ?_
          refine fm_ild4 dX9_quarrel_40 ?_
          refine fm_if_eq (⟨by omega, by omega⟩) 79 dX9_quarrel_42 (by decide) (fun h42 => ?_) (fun h42 => ?_)
          · refine fm_iconst dX9_quarrel_79 ?_
            refine J80 _ ?_ _
            first
              | (exfalso; omega)
              | (rw [if_pos (by omega)]; done)
              | (rw [if_neg (by omega)]; done)
          · refine fm_ald0 dX9_quarrel_45 ?_
            refine gr_8_24 dX9_quarrel_46 fd_X9_70 ?_
            refine fm_ald0 dX9_quarrel_49 ?_
            refine gr_8_13 dX9_quarrel_50 fd_X9_40 ?_
            refine fm_ild3 dX9_quarrel_53 ?_
            refine fm_iald dX9_quarrel_54 ma_11 (by omega) (by omega) ?_
            try rw [Int.toNat_natCast]
            refine fm_iald dX9_quarrel_55 ma_21 (by omega) (by omega) ?_
            refine fm_ald0 dX9_quarrel_56 ?_
            refine gr_8_24 dX9_quarrel_57 fd_X9_70 ?_
            refine fm_ald0 dX9_quarrel_60 ?_
            refine gr_8_14 dX9_quarrel_61 fd_X9_43 ?_
            refine fm_ild3 dX9_quarrel_64 ?_
            refine fm_iald dX9_quarrel_65 ma_12 (by omega) (by omega) ?_
            try rw [Int.toNat_natCast]
            refine fm_iald dX9_quarrel_66 ma_21 (by omega) (by omega) ?_
            refine fm_icmp_le (⟨by omega, by omega⟩) (⟨by omega, by omega⟩) 79 dX9_quarrel_67 (by decide) (fun h67 => ?_) (fun h67 => ?_)
            · refine fm_iconst dX9_quarrel_79 ?_
              refine J80 _ ?_ _
              first
                | (exfalso; omega)
                | (rw [if_pos (by omega)]; done)
                | (rw [if_neg (by omega)]; done)
            · refine fm_ald0 dX9_quarrel_70 ?_
              refine gr_8_15 dX9_quarrel_71 fd_X9_46 ?_
              refine fm_ild3 dX9_quarrel_74 ?_
              refine fm_iald dX9_quarrel_75 ma_13 (by omega) (by omega) ?_
              try rw [Int.toNat_natCast]
              refine fm_goto 80 dX9_quarrel_76 (by decide) ?_
              refine J80 _ ?_ _
              first
                | (exfalso; omega)
                | (rw [if_pos (by omega)]; done)
                | (rw [if_neg (by omega)]; done)
set_option maxRecDepth 20000 in
set_option maxHeartbeats 4000000 in
theorem k_X9_quarrel {ω : fm_O} {σ : fm_Mem} (hf : fi σ) {n : Int} (hn : 0 ≤ n ∧ n ≤ 6) (hs : ∀ v : Nat, (v : Int) < n → 0 ≤ σ 21 v ∧ σ 21 v < 10) : fm_Met km ω yX9_quarrel cX9_quarrel 5 (some .int) (fm_rm 0) [fm_r ω 0, fm_I n] σ (fm_pI fun z σ' => z = qsn σ (σ 21) n (σ 0 12).toNat ∧ σ = σ') := by
  refine fm_start (by decide) rfl (Nat.le_of_ble_eq_true rfl) [some (fm_r ω 0), some (fm_I n), none, none, none] rfl (fun Γ => ?_)
  have b12 := hf.2.2.2.2.2.2.2.2.2.2.2.1
  refine fm_iconst dX9_quarrel_0 ?_
  refine fm_ist2 rfl dX9_quarrel_1 ?_
  refine fm_iconst dX9_quarrel_2 ?_
  refine fm_ist3 rfl dX9_quarrel_3 ?_
  exact l_mq hf hn hs (σ 0 12).toNat 0 0 _ (by omega) rfl
set_option maxRecDepth 20000 in
set_option maxHeartbeats 4000000 in
theorem l_mo1 {ω : fm_O} {σ : fm_Mem} {Γ : fm_G} {P : Option Value → fm_Mem → Prop} {N : Nat} {i : Int} (hN : N < 7) (hN2 : 2 ≤ N) (hK : ∀ o4 : Option Value, fm_W km ω Γ (cX9_order, RX9, fm_rm 1, 10, (some .int)) P σ 40 [some (fm_r ω 0), some (fm_I (N : Int)), some (fm_I i), some (fm_I ((fct N) : Int)), o4, none, none, none, none, none] []) : ∀ (d k : Nat), k + d = N + 1 → 2 ≤ k → fm_W km ω Γ (cX9_order, RX9, fm_rm 1, 10, (some .int)) P σ 23 [some (fm_r ω 0), some (fm_I (N : Int)), some (fm_I i), some (fm_I ((fct (k - 1)) : Int)), some (fm_I ((k) : Int)), none, none, none, none, none] [] := by
  intro d
  induction d with
  | zero =>
    intro k hk h2
    have e : k - 1 = N := by omega
    rw [e]
    refine fm_ild4 dX9_order_23 ?_
    refine fm_ild1 dX9_order_25 ?_
    refine fm_icmp_gt (⟨by omega, by omega⟩) (⟨by omega, by omega⟩) 40 dX9_order_26 (by decide) (fun h26 => ?_) (fun h26 => ?_)
    · exact hK _
    · exfalso; omega
  | succ d ih =>
    intro k hk h2
    have e : (fct (k - 1) : Int) * (k : Int) = (fct (k + 1 - 1) : Int) := by
      rw [show k + 1 - 1 = (k - 1) + 1 by omega, fct_s, show (k - 1) + 1 = k by omega, Nat.mul_comm]
      push_cast
      rfl
    refine fm_ild4 dX9_order_23 ?_
    refine fm_ild1 dX9_order_25 ?_
    refine fm_icmp_gt (⟨by omega, by omega⟩) (⟨by omega, by omega⟩) 40 dX9_order_26 (by decide) (fun h26 => ?_) (fun h26 => ?_)
    · exfalso; omega
    · refine fm_ild3 dX9_order_29 ?_
      refine fm_ild4 dX9_order_30 ?_
      refine fm_imul dX9_order_32 ?_
      rw [e]
      refine fm_ist3 rfl dX9_order_33 ?_
      refine fm_inc4 rfl dX9_order_34 ?_
      refine fm_goto 23 dX9_order_37 (by decide) ?_
      rw [show (k : Int) + 1 = ((k + 1 : Nat) : Int) by omega]
      exact ih (k + 1) (by omega) (by omega)
theorem gg_o (a b : Tr) : (gg a b).2.2 = (if b.1 < a.1 then b.2.2 else a.2.2) := by
  unfold gg
  split
  · rfl
  · split
    · rfl
    · rfl
def exf (μ : fm_Mem) (N : Nat) : Nat → Tr := fun x => ((0 : Int) + ocs μ N N 0 x, 1, (0 : Int) + ocd N N 0 x)
set_option maxRecDepth 20000 in
set_option maxHeartbeats 4000000 in
theorem l_mo2 {ω : fm_O} {σ : fm_Mem} {Γ : fm_G} (hi : fj σ) {N : Nat} {i : Int} (hN : N < 7) (hN2 : 2 ≤ N) (ri : fm_R i) (hi2 : -2 ≤ i) : ∀ (d k : Nat) (τ : fm_Mem) (b4 b5 b6 : Int) (o8 o9 : Option Value), k + d = fct N → (∀ q x, q ≠ 21 → τ q x = σ q x) → b4 = (fld (exf σ N) (99999, 0, 0) k).1 → b5 = (fld (exf σ N) (99999, 0, 0) k).2.1 → b6 = (fld (exf σ N) (99999, 0, 0) k).2.2 → (0 ≤ b4 ∧ b4 ≤ 99999) → fm_W km ω Γ (cX9_order, RX9, fm_rm 1, 10, (some .int)) (fm_pI fun z σ' => z = sp_order σ (N : Int) i ∧ sam σ σ') τ 53 [some (fm_r ω 0), some (fm_I (N : Int)), some (fm_I i), some (fm_I ((fct N) : Int)), some (fm_I b4), some (fm_I b5), some (fm_I b6), some (fm_I ((k) : Int)), o8, o9] [] := by
  have hf := hi.fi
  have hfb := fct_b N hN
  intro d
  induction d with
  | zero =>
    intro k τ b4 b5 b6 o8 o9 hk hr h4 h5 h6 hb
    have e : k = fct N := by omega
    subst e
    have hall := fld_all hf hN N 0 (Nat.two_pow_pos N) (by rw [pcn_zero N hN, Nat.add_zero]) 0 0 (99999, 0, 0) (by omega) (by rw [pcn_zero N hN]; decide) (by decide)
    have hdb := dpt_b hf hN N 0 (Nat.two_pow_pos N) (by rw [pcn_zero N hN, Nat.add_zero])
    have hdo := dpt_o hf hN N 0 (Nat.two_pow_pos N) (by rw [pcn_zero N hN, Nat.add_zero])
    rw [gg_lt (show (shf 0 0 (dpt σ N N 0)).1 < (99999 : Int) by show 0 + _ < _; omega)] at hall
    have e1 : fld (exf σ N) (99999, 0, 0) (fct N) = shf 0 0 (dpt σ N N 0) := hall
    rw [e1] at h4 h5 h6
    have g4 : b4 = (dpt σ N N 0).1 := by rw [h4]; show 0 + _ = _; omega
    have g5 : b5 = (dpt σ N N 0).2.1 := h5
    have g6 : b6 = (dpt σ N N 0).2.2 := by rw [h6]; show 0 + _ = _; omega
    have h8 : (8 : Int) ^ N ≤ 262144 := pow8_i N hN
    rw [Nat.sub_self] at hdo
    have hs : sam σ τ := fun q x hq => hr q x (by omega)
    have b6b : 0 ≤ b6 ∧ b6 < 262144 := by
      rw [g6]
      have h1 : (8 : Int) ^ 0 = 1 := rfl
      omega
    have b6d : 0 ≤ b6 / 8 ^ i.toNat ∧ b6 / 8 ^ i.toNat < 262144 := by
      have hp : (0 : Int) < 8 ^ i.toNat := Int.pow_pos (by decide)
      refine ⟨Int.ediv_nonneg b6b.1 (by omega), ?_⟩
      have := Int.ediv_le_self (8 ^ i.toNat) b6b.1
      omega
    refine fm_ild7 dX9_order_53 ?_
    refine fm_ild3 dX9_order_55 ?_
    refine fm_icmp_ge (⟨by omega, by omega⟩) (⟨by omega, by omega⟩) 142 dX9_order_56 (by decide) (fun h56 => ?_) (fun h56 => ?_)
    · refine fm_ild2 dX9_order_142 ?_
      refine fm_iconst dX9_order_143 ?_
      refine fm_icmp_ne (⟨by omega, by omega⟩) (⟨by omega, by omega⟩) 152 dX9_order_144 (by decide) (fun h144 => ?_) (fun h144 => ?_)
      · refine fm_ild2 dX9_order_152 ?_
        refine fm_bipush (by decide) dX9_order_153 ?_
        refine fm_icmp_ne (⟨by omega, by omega⟩) (⟨by omega, by omega⟩) 163 dX9_order_155 (by decide) (fun h155 => ?_) (fun h155 => ?_)
        · refine fm_ild2 dX9_order_163 ?_
          refine fm_ild1 dX9_order_164 ?_
          refine fm_icmp_ge (⟨by omega, by omega⟩) (⟨by omega, by omega⟩) 180 dX9_order_165 (by decide) (fun h165 => ?_) (fun h165 => ?_)
          · refine fm_bipush (by decide) dX9_order_180 ?_
            refine fm_iretI dX9_order_182 rfl ?_
            unfold sp_order
            rw [Int.toNat_natCast]
            first
              | (rw [if_neg (by omega), if_pos (by omega)]; exact ⟨g4, hs⟩)
              | (rw [if_neg (by omega), if_neg (by omega), if_pos (by omega)]; exact ⟨g5, hs⟩)
              | (rw [if_neg (by omega), if_neg (by omega), if_neg (by omega), if_pos (by omega)]; exact ⟨by rw [g6], hs⟩)
              | (rw [if_neg (by omega), if_neg (by omega), if_neg (by omega), if_neg (by omega)]; exact ⟨rfl, hs⟩)
          · refine fm_ild6 dX9_order_168 ?_
            refine fm_iconst dX9_order_170 ?_
            refine fm_ild2 dX9_order_171 ?_
            refine fm_imul dX9_order_172 ?_
            refine fm_ishr (b6 / 8 ^ i.toNat) (bi_shr8 (by omega) (by omega) (by omega)) dX9_order_173 ?_
            refine fm_bipush (by decide) dX9_order_174 ?_
            refine fm_iand (b6 / 8 ^ i.toNat % 8) (fm_andL 3 _ (by decide) (by decide) (by omega) (by omega)) dX9_order_176 ?_
            refine fm_goto 182 dX9_order_177 (by decide) ?_
            refine fm_iretI dX9_order_182 rfl ?_
            unfold sp_order
            rw [Int.toNat_natCast]
            first
              | (rw [if_neg (by omega), if_pos (by omega)]; exact ⟨g4, hs⟩)
              | (rw [if_neg (by omega), if_neg (by omega), if_pos (by omega)]; exact ⟨g5, hs⟩)
              | (rw [if_neg (by omega), if_neg (by omega), if_neg (by omega), if_pos (by omega)]; exact ⟨by rw [g6], hs⟩)
              | (rw [if_neg (by omega), if_neg (by omega), if_neg (by omega), if_neg (by omega)]; exact ⟨rfl, hs⟩)
        · refine fm_ild5 dX9_order_158 ?_
          refine fm_goto 182 dX9_order_160 (by decide) ?_
          refine fm_iretI dX9_order_182 rfl ?_
          unfold sp_order
          rw [Int.toNat_natCast]
          first
            | (rw [if_neg (by omega), if_pos (by omega)]; exact ⟨g4, hs⟩)
            | (rw [if_neg (by omega), if_neg (by omega), if_pos (by omega)]; exact ⟨g5, hs⟩)
            | (rw [if_neg (by omega), if_neg (by omega), if_neg (by omega), if_pos (by omega)]; exact ⟨by rw [g6], hs⟩)
            | (rw [if_neg (by omega), if_neg (by omega), if_neg (by omega), if_neg (by omega)]; exact ⟨rfl, hs⟩)
      · refine fm_ild4 dX9_order_147 ?_
        refine fm_goto 182 dX9_order_149 (by decide) ?_
        refine fm_iretI dX9_order_182 rfl ?_
        unfold sp_order
        rw [Int.toNat_natCast]
        first
          | (rw [if_neg (by omega), if_pos (by omega)]; exact ⟨g4, hs⟩)
          | (rw [if_neg (by omega), if_neg (by omega), if_pos (by omega)]; exact ⟨g5, hs⟩)
          | (rw [if_neg (by omega), if_neg (by omega), if_neg (by omega), if_pos (by omega)]; exact ⟨by rw [g6], hs⟩)
          | (rw [if_neg (by omega), if_neg (by omega), if_neg (by omega), if_neg (by omega)]; exact ⟨rfl, hs⟩)
    · exfalso; omega
  | succ d ih =>
    intro k τ b4 b5 b6 o8 o9 hk hr h4 h5 h6 hb
    have hs : sam σ τ := fun q x hq => hr q x (by omega)
    have ob := ocs_b hf N hN N 0 k
    have gq := gg_q (fld (exf σ N) (99999, 0, 0) k) (exf σ N k)
    have go := gg_o (fld (exf σ N) (99999, 0, 0) k) (exf σ N k)
    have x1 : (exf σ N k).1 = ocs σ N N 0 k := by show 0 + _ = _; omega
    have x2 : (exf σ N k).2.1 = 1 := rfl
    have x3 : (exf σ N k).2.2 = ocd N N 0 k := by show 0 + _ = _; omega
    rw [x1, ← h4, x2, ← h5] at gq
    rw [x1, ← h4, x3, ← h6] at go
    have fs : fld (exf σ N) (99999, 0, 0) (k + 1) = gg (fld (exf σ N) (99999, 0, 0) k) (exf σ N k) := rfl
    refine fm_ild7 dX9_order_53 ?_
    refine fm_ild3 dX9_order_55 ?_
    refine fm_icmp_ge (⟨by omega, by omega⟩) (⟨by omega, by omega⟩) 142 dX9_order_56 (by decide) (fun h56 => ?_) (fun h56 => ?_)
    · exfalso; omega
    · refine fm_ald0 dX9_order_59 ?_
      refine fm_ild1 dX9_order_60 ?_
      refine fm_ild7 dX9_order_61 ?_
      refine fm_cvI dX9_order_63 cl_X9_149 (k_X9_ordered hN hN2 (by omega)) mb_0 rfl rfl (by decide) rfl rfl (Nat.le_of_ble_eq_true rfl) (fun z63 s63 q63 => ?_)
      obtain ⟨rfl, r63, p63⟩ := q63
      have hs3 : sam σ s63 := fun q x hq => by rw [r63 q x (by omega)]; exact hr q x (by omega)
      have hf3 := (fj_sam hi hs3).fi
      have ob2 := osp_b hN N 0 k (τ 21) (Nat.two_pow_pos N) (by rw [pcn_zero N hN, Nat.add_zero]) (by omega) (fun t _ h => by rw [bt_0] at h; omega)
      refine fm_ist8 rfl dX9_order_66 ?_
      refine fm_ald0 dX9_order_68 ?_
      refine fm_ild1 dX9_order_69 ?_
      refine fm_cvI dX9_order_70 cl_X9_152 (k_X9_quarrel hf3 (by omega) (fun v hv => by rw [p63]; have := ob2 v (by omega) (by omega); omega)) mb_0 rfl rfl (by decide) rfl rfl (Nat.le_of_ble_eq_true rfl) (fun z70 s70 q70 => ?_)
      obtain ⟨q70, rfl⟩ := q70
      have e70 : z70 = ocs σ N N 0 k := by
        rw [q70, hs3 0 12 (by omega), qsn_cong (fun q hq => ⟨hs3 11 q (by omega), hs3 12 q (by omega), hs3 13 q (by omega)⟩), p63]
        exact qsn_ocs hf hN (by omega) _
      subst e70
      refine fm_ist9 rfl dX9_order_73 ?_
      refine fm_ild9 dX9_order_75 ?_
      refine fm_ild4 dX9_order_77 ?_
      refine fm_icmp_ge (⟨by omega, by omega⟩) (⟨by omega, by omega⟩) 87 dX9_order_79 (by decide) (fun h79 => ?_) (fun h79 => ?_)
      · refine fm_ild6 dX9_order_87 ?_
        refine fm_ist6 rfl dX9_order_89 ?_
        refine fm_ild9 dX9_order_91 ?_
        refine fm_ild4 dX9_order_93 ?_
        refine fm_icmp_ge (⟨by omega, by omega⟩) (⟨by omega, by omega⟩) 102 dX9_order_95 (by decide) (fun h95 => ?_) (fun h95 => ?_)
        · refine fm_ild9 dX9_order_102 ?_
          refine fm_ild4 dX9_order_104 ?_
          refine fm_icmp_ne (⟨by omega, by omega⟩) (⟨by omega, by omega⟩) 116 dX9_order_106 (by decide) (fun h106 => ?_) (fun h106 => ?_)
          · refine fm_ild5 dX9_order_116 ?_
            refine fm_ist5 rfl dX9_order_118 ?_
            refine fm_ild9 dX9_order_120 ?_
            refine fm_ild4 dX9_order_122 ?_
            refine fm_icmp_ge (⟨by omega, by omega⟩) (⟨by omega, by omega⟩) 132 dX9_order_124 (by decide) (fun h124 => ?_) (fun h124 => ?_)
            · refine fm_ild4 dX9_order_132 ?_
              refine fm_ist4 rfl dX9_order_134 ?_
              refine fm_inc7 rfl dX9_order_136 ?_
              refine fm_goto 53 dX9_order_139 (by decide) ?_
              rw [show (k : Int) + 1 = ((k + 1 : Nat) : Int) by omega]
              first
                | (exfalso; omega)
                | (refine ih (k + 1) s63 _ _ _ _ _ (by omega) (fun q x hq => by rw [r63 q x hq]; exact hr q x hq) ?_ ?_ ?_ (by omega)
                   · rw [fs, gq.1, if_pos (by omega)]
                   · rw [fs, gq.2, if_pos (by omega)]
                   · rw [fs, go, if_pos (by omega)])
                | (refine ih (k + 1) s63 _ _ _ _ _ (by omega) (fun q x hq => by rw [r63 q x hq]; exact hr q x hq) ?_ ?_ ?_ (by omega)
                   · rw [fs, gq.1, if_neg (by omega)]
                   · rw [fs, gq.2, if_neg (by omega), if_pos (by omega)]
                   · rw [fs, go, if_neg (by omega)])
                | (refine ih (k + 1) s63 _ _ _ _ _ (by omega) (fun q x hq => by rw [r63 q x hq]; exact hr q x hq) ?_ ?_ ?_ (by omega)
                   · rw [fs, gq.1, if_neg (by omega)]
                   · rw [fs, gq.2, if_neg (by omega), if_neg (by omega)]
                   · rw [fs, go, if_neg (by omega)])
            · refine fm_ild9 dX9_order_127 ?_
              refine fm_goto 134 dX9_order_129 (by decide) ?_
              refine fm_ist4 rfl dX9_order_134 ?_
              refine fm_inc7 rfl dX9_order_136 ?_
              refine fm_goto 53 dX9_order_139 (by decide) ?_
              rw [show (k : Int) + 1 = ((k + 1 : Nat) : Int) by omega]
              first
                | (exfalso; omega)
                | (refine ih (k + 1) s63 _ _ _ _ _ (by omega) (fun q x hq => by rw [r63 q x hq]; exact hr q x hq) ?_ ?_ ?_ (by omega)
                   · rw [fs, gq.1, if_pos (by omega)]
                   · rw [fs, gq.2, if_pos (by omega)]
                   · rw [fs, go, if_pos (by omega)])
                | (refine ih (k + 1) s63 _ _ _ _ _ (by omega) (fun q x hq => by rw [r63 q x hq]; exact hr q x hq) ?_ ?_ ?_ (by omega)
                   · rw [fs, gq.1, if_neg (by omega)]
                   · rw [fs, gq.2, if_neg (by omega), if_pos (by omega)]
                   · rw [fs, go, if_neg (by omega)])
                | (refine ih (k + 1) s63 _ _ _ _ _ (by omega) (fun q x hq => by rw [r63 q x hq]; exact hr q x hq) ?_ ?_ ?_ (by omega)
                   · rw [fs, gq.1, if_neg (by omega)]
                   · rw [fs, gq.2, if_neg (by omega), if_neg (by omega)]
                   · rw [fs, go, if_neg (by omega)])
          · refine fm_ild5 dX9_order_109 ?_
            refine fm_iconst dX9_order_111 ?_
            refine fm_iadd dX9_order_112 ?_
            refine fm_goto 118 dX9_order_113 (by decide) ?_
            refine fm_ist5 rfl dX9_order_118 ?_
            refine fm_ild9 dX9_order_120 ?_
            refine fm_ild4 dX9_order_122 ?_
            refine fm_icmp_ge (⟨by omega, by omega⟩) (⟨by omega, by omega⟩) 132 dX9_order_124 (by decide) (fun h124 => ?_) (fun h124 => ?_)
            · refine fm_ild4 dX9_order_132 ?_
              refine fm_ist4 rfl dX9_order_134 ?_
              refine fm_inc7 rfl dX9_order_136 ?_
              refine fm_goto 53 dX9_order_139 (by decide) ?_
              rw [show (k : Int) + 1 = ((k + 1 : Nat) : Int) by omega]
              first
                | (exfalso; omega)
                | (refine ih (k + 1) s63 _ _ _ _ _ (by omega) (fun q x hq => by rw [r63 q x hq]; exact hr q x hq) ?_ ?_ ?_ (by omega)
                   · rw [fs, gq.1, if_pos (by omega)]
                   · rw [fs, gq.2, if_pos (by omega)]
                   · rw [fs, go, if_pos (by omega)])
                | (refine ih (k + 1) s63 _ _ _ _ _ (by omega) (fun q x hq => by rw [r63 q x hq]; exact hr q x hq) ?_ ?_ ?_ (by omega)
                   · rw [fs, gq.1, if_neg (by omega)]
                   · rw [fs, gq.2, if_neg (by omega), if_pos (by omega)]
                   · rw [fs, go, if_neg (by omega)])
                | (refine ih (k + 1) s63 _ _ _ _ _ (by omega) (fun q x hq => by rw [r63 q x hq]; exact hr q x hq) ?_ ?_ ?_ (by omega)
                   · rw [fs, gq.1, if_neg (by omega)]
                   · rw [fs, gq.2, if_neg (by omega), if_neg (by omega)]
                   · rw [fs, go, if_neg (by omega)])
            · refine fm_ild9 dX9_order_127 ?_
              refine fm_goto 134 dX9_order_129 (by decide) ?_
              refine fm_ist4 rfl dX9_order_134 ?_
              refine fm_inc7 rfl dX9_order_136 ?_
              refine fm_goto 53 dX9_order_139 (by decide) ?_
              rw [show (k : Int) + 1 = ((k + 1 : Nat) : Int) by omega]
              first
                | (exfalso; omega)
                | (refine ih (k + 1) s63 _ _ _ _ _ (by omega) (fun q x hq => by rw [r63 q x hq]; exact hr q x hq) ?_ ?_ ?_ (by omega)
                   · rw [fs, gq.1, if_pos (by omega)]
                   · rw [fs, gq.2, if_pos (by omega)]
                   · rw [fs, go, if_pos (by omega)])
                | (refine ih (k + 1) s63 _ _ _ _ _ (by omega) (fun q x hq => by rw [r63 q x hq]; exact hr q x hq) ?_ ?_ ?_ (by omega)
                   · rw [fs, gq.1, if_neg (by omega)]
                   · rw [fs, gq.2, if_neg (by omega), if_pos (by omega)]
                   · rw [fs, go, if_neg (by omega)])
                | (refine ih (k + 1) s63 _ _ _ _ _ (by omega) (fun q x hq => by rw [r63 q x hq]; exact hr q x hq) ?_ ?_ ?_ (by omega)
                   · rw [fs, gq.1, if_neg (by omega)]
                   · rw [fs, gq.2, if_neg (by omega), if_neg (by omega)]
                   · rw [fs, go, if_neg (by omega)])
        · refine fm_iconst dX9_order_98 ?_
          refine fm_goto 118 dX9_order_99 (by decide) ?_
          refine fm_ist5 rfl dX9_order_118 ?_
          refine fm_ild9 dX9_order_120 ?_
          refine fm_ild4 dX9_order_122 ?_
          refine fm_icmp_ge (⟨by omega, by omega⟩) (⟨by omega, by omega⟩) 132 dX9_order_124 (by decide) (fun h124 => ?_) (fun h124 => ?_)
          · refine fm_ild4 dX9_order_132 ?_
            refine fm_ist4 rfl dX9_order_134 ?_
            refine fm_inc7 rfl dX9_order_136 ?_
            refine fm_goto 53 dX9_order_139 (by decide) ?_
            rw [show (k : Int) + 1 = ((k + 1 : Nat) : Int) by omega]
            first
              | (exfalso; omega)
              | (refine ih (k + 1) s63 _ _ _ _ _ (by omega) (fun q x hq => by rw [r63 q x hq]; exact hr q x hq) ?_ ?_ ?_ (by omega)
                 · rw [fs, gq.1, if_pos (by omega)]
                 · rw [fs, gq.2, if_pos (by omega)]
                 · rw [fs, go, if_pos (by omega)])
              | (refine ih (k + 1) s63 _ _ _ _ _ (by omega) (fun q x hq => by rw [r63 q x hq]; exact hr q x hq) ?_ ?_ ?_ (by omega)
                 · rw [fs, gq.1, if_neg (by omega)]
                 · rw [fs, gq.2, if_neg (by omega), if_pos (by omega)]
                 · rw [fs, go, if_neg (by omega)])
              | (refine ih (k + 1) s63 _ _ _ _ _ (by omega) (fun q x hq => by rw [r63 q x hq]; exact hr q x hq) ?_ ?_ ?_ (by omega)
                 · rw [fs, gq.1, if_neg (by omega)]
                 · rw [fs, gq.2, if_neg (by omega), if_neg (by omega)]
                 · rw [fs, go, if_neg (by omega)])
          · refine fm_ild9 dX9_order_127 ?_
            refine fm_goto 134 dX9_order_129 (by decide) ?_
            refine fm_ist4 rfl dX9_order_134 ?_
            refine fm_inc7 rfl dX9_order_136 ?_
            refine fm_goto 53 dX9_order_139 (by decide) ?_
            rw [show (k : Int) + 1 = ((k + 1 : Nat) : Int) by omega]
            first
              | (exfalso; omega)
              | (refine ih (k + 1) s63 _ _ _ _ _ (by omega) (fun q x hq => by rw [r63 q x hq]; exact hr q x hq) ?_ ?_ ?_ (by omega)
                 · rw [fs, gq.1, if_pos (by omega)]
                 · rw [fs, gq.2, if_pos (by omega)]
                 · rw [fs, go, if_pos (by omega)])
              | (refine ih (k + 1) s63 _ _ _ _ _ (by omega) (fun q x hq => by rw [r63 q x hq]; exact hr q x hq) ?_ ?_ ?_ (by omega)
                 · rw [fs, gq.1, if_neg (by omega)]
                 · rw [fs, gq.2, if_neg (by omega), if_pos (by omega)]
                 · rw [fs, go, if_neg (by omega)])
              | (refine ih (k + 1) s63 _ _ _ _ _ (by omega) (fun q x hq => by rw [r63 q x hq]; exact hr q x hq) ?_ ?_ ?_ (by omega)
                 · rw [fs, gq.1, if_neg (by omega)]
                 · rw [fs, gq.2, if_neg (by omega), if_neg (by omega)]
                 · rw [fs, go, if_neg (by omega)])
      · refine fm_ild8 dX9_order_82 ?_
        refine fm_goto 89 dX9_order_84 (by decide) ?_
        refine fm_ist6 rfl dX9_order_89 ?_
        refine fm_ild9 dX9_order_91 ?_
        refine fm_ild4 dX9_order_93 ?_
        refine fm_icmp_ge (⟨by omega, by omega⟩) (⟨by omega, by omega⟩) 102 dX9_order_95 (by decide) (fun h95 => ?_) (fun h95 => ?_)
        · refine fm_ild9 dX9_order_102 ?_
          refine fm_ild4 dX9_order_104 ?_
          refine fm_icmp_ne (⟨by omega, by omega⟩) (⟨by omega, by omega⟩) 116 dX9_order_106 (by decide) (fun h106 => ?_) (fun h106 => ?_)
          · refine fm_ild5 dX9_order_116 ?_
            refine fm_ist5 rfl dX9_order_118 ?_
            refine fm_ild9 dX9_order_120 ?_
            refine fm_ild4 dX9_order_122 ?_
            refine fm_icmp_ge (⟨by omega, by omega⟩) (⟨by omega, by omega⟩) 132 dX9_order_124 (by decide) (fun h124 => ?_) (fun h124 => ?_)
            · refine fm_ild4 dX9_order_132 ?_
              refine fm_ist4 rfl dX9_order_134 ?_
              refine fm_inc7 rfl dX9_order_136 ?_
              refine fm_goto 53 dX9_order_139 (by decide) ?_
              rw [show (k : Int) + 1 = ((k + 1 : Nat) : Int) by omega]
              first
                | (exfalso; omega)
                | (refine ih (k + 1) s63 _ _ _ _ _ (by omega) (fun q x hq => by rw [r63 q x hq]; exact hr q x hq) ?_ ?_ ?_ (by omega)
                   · rw [fs, gq.1, if_pos (by omega)]
                   · rw [fs, gq.2, if_pos (by omega)]
                   · rw [fs, go, if_pos (by omega)])
                | (refine ih (k + 1) s63 _ _ _ _ _ (by omega) (fun q x hq => by rw [r63 q x hq]; exact hr q x hq) ?_ ?_ ?_ (by omega)
                   · rw [fs, gq.1, if_neg (by omega)]
                   · rw [fs, gq.2, if_neg (by omega), if_pos (by omega)]
                   · rw [fs, go, if_neg (by omega)])
                | (refine ih (k + 1) s63 _ _ _ _ _ (by omega) (fun q x hq => by rw [r63 q x hq]; exact hr q x hq) ?_ ?_ ?_ (by omega)
                   · rw [fs, gq.1, if_neg (by omega)]
                   · rw [fs, gq.2, if_neg (by omega), if_neg (by omega)]
                   · rw [fs, go, if_neg (by omega)])
            · refine fm_ild9 dX9_order_127 ?_
              refine fm_goto 134 dX9_order_129 (by decide) ?_
              refine fm_ist4 rfl dX9_order_134 ?_
              refine fm_inc7 rfl dX9_order_136 ?_
              refine fm_goto 53 dX9_order_139 (by decide) ?_
              rw [show (k : Int) + 1 = ((k + 1 : Nat) : Int) by omega]
              first
                | (exfalso; omega)
                | (refine ih (k + 1) s63 _ _ _ _ _ (by omega) (fun q x hq => by rw [r63 q x hq]; exact hr q x hq) ?_ ?_ ?_ (by omega)
                   · rw [fs, gq.1, if_pos (by omega)]
                   · rw [fs, gq.2, if_pos (by omega)]
                   · rw [fs, go, if_pos (by omega)])
                | (refine ih (k + 1) s63 _ _ _ _ _ (by omega) (fun q x hq => by rw [r63 q x hq]; exact hr q x hq) ?_ ?_ ?_ (by omega)
                   · rw [fs, gq.1, if_neg (by omega)]
                   · rw [fs, gq.2, if_neg (by omega), if_pos (by omega)]
                   · rw [fs, go, if_neg (by omega)])
                | (refine ih (k + 1) s63 _ _ _ _ _ (by omega) (fun q x hq => by rw [r63 q x hq]; exact hr q x hq) ?_ ?_ ?_ (by omega)
                   · rw [fs, gq.1, if_neg (by omega)]
                   · rw [fs, gq.2, if_neg (by omega), if_neg (by omega)]
                   · rw [fs, go, if_neg (by omega)])
          · refine fm_ild5 dX9_order_109 ?_
            refine fm_iconst dX9_order_111 ?_
            refine fm_iadd dX9_order_112 ?_
            refine fm_goto 118 dX9_order_113 (by decide) ?_
            refine fm_ist5 rfl dX9_order_118 ?_
            refine fm_ild9 dX9_order_120 ?_
            refine fm_ild4 dX9_order_122 ?_
            refine fm_icmp_ge (⟨by omega, by omega⟩) (⟨by omega, by omega⟩) 132 dX9_order_124 (by decide) (fun h124 => ?_) (fun h124 => ?_)
            · refine fm_ild4 dX9_order_132 ?_
              refine fm_ist4 rfl dX9_order_134 ?_
              refine fm_inc7 rfl dX9_order_136 ?_
              refine fm_goto 53 dX9_order_139 (by decide) ?_
              rw [show (k : Int) + 1 = ((k + 1 : Nat) : Int) by omega]
              first
                | (exfalso; omega)
                | (refine ih (k + 1) s63 _ _ _ _ _ (by omega) (fun q x hq => by rw [r63 q x hq]; exact hr q x hq) ?_ ?_ ?_ (by omega)
                   · rw [fs, gq.1, if_pos (by omega)]
                   · rw [fs, gq.2, if_pos (by omega)]
                   · rw [fs, go, if_pos (by omega)])
                | (refine ih (k + 1) s63 _ _ _ _ _ (by omega) (fun q x hq => by rw [r63 q x hq]; exact hr q x hq) ?_ ?_ ?_ (by omega)
                   · rw [fs, gq.1, if_neg (by omega)]
                   · rw [fs, gq.2, if_neg (by omega), if_pos (by omega)]
                   · rw [fs, go, if_neg (by omega)])
                | (refine ih (k + 1) s63 _ _ _ _ _ (by omega) (fun q x hq => by rw [r63 q x hq]; exact hr q x hq) ?_ ?_ ?_ (by omega)
                   · rw [fs, gq.1, if_neg (by omega)]
                   · rw [fs, gq.2, if_neg (by omega), if_neg (by omega)]
                   · rw [fs, go, if_neg (by omega)])
            · refine fm_ild9 dX9_order_127 ?_
              refine fm_goto 134 dX9_order_129 (by decide) ?_
              refine fm_ist4 rfl dX9_order_134 ?_
              refine fm_inc7 rfl dX9_order_136 ?_
              refine fm_goto 53 dX9_order_139 (by decide) ?_
              rw [show (k : Int) + 1 = ((k + 1 : Nat) : Int) by omega]
              first
                | (exfalso; omega)
                | (refine ih (k + 1) s63 _ _ _ _ _ (by omega) (fun q x hq => by rw [r63 q x hq]; exact hr q x hq) ?_ ?_ ?_ (by omega)
                   · rw [fs, gq.1, if_pos (by omega)]
                   · rw [fs, gq.2, if_pos (by omega)]
                   · rw [fs, go, if_pos (by omega)])
                | (refine ih (k + 1) s63 _ _ _ _ _ (by omega) (fun q x hq => by rw [r63 q x hq]; exact hr q x hq) ?_ ?_ ?_ (by omega)
                   · rw [fs, gq.1, if_neg (by omega)]
                   · rw [fs, gq.2, if_neg (by omega), if_pos (by omega)]
                   · rw [fs, go, if_neg (by omega)])
                | (refine ih (k + 1) s63 _ _ _ _ _ (by omega) (fun q x hq => by rw [r63 q x hq]; exact hr q x hq) ?_ ?_ ?_ (by omega)
                   · rw [fs, gq.1, if_neg (by omega)]
                   · rw [fs, gq.2, if_neg (by omega), if_neg (by omega)]
                   · rw [fs, go, if_neg (by omega)])
        · refine fm_iconst dX9_order_98 ?_
          refine fm_goto 118 dX9_order_99 (by decide) ?_
          refine fm_ist5 rfl dX9_order_118 ?_
          refine fm_ild9 dX9_order_120 ?_
          refine fm_ild4 dX9_order_122 ?_
          refine fm_icmp_ge (⟨by omega, by omega⟩) (⟨by omega, by omega⟩) 132 dX9_order_124 (by decide) (fun h124 => ?_) (fun h124 => ?_)
          · refine fm_ild4 dX9_order_132 ?_
            refine fm_ist4 rfl dX9_order_134 ?_
            refine fm_inc7 rfl dX9_order_136 ?_
            refine fm_goto 53 dX9_order_139 (by decide) ?_
            rw [show (k : Int) + 1 = ((k + 1 : Nat) : Int) by omega]
            first
              | (exfalso; omega)
              | (refine ih (k + 1) s63 _ _ _ _ _ (by omega) (fun q x hq => by rw [r63 q x hq]; exact hr q x hq) ?_ ?_ ?_ (by omega)
                 · rw [fs, gq.1, if_pos (by omega)]
                 · rw [fs, gq.2, if_pos (by omega)]
                 · rw [fs, go, if_pos (by omega)])
              | (refine ih (k + 1) s63 _ _ _ _ _ (by omega) (fun q x hq => by rw [r63 q x hq]; exact hr q x hq) ?_ ?_ ?_ (by omega)
                 · rw [fs, gq.1, if_neg (by omega)]
                 · rw [fs, gq.2, if_neg (by omega), if_pos (by omega)]
                 · rw [fs, go, if_neg (by omega)])
              | (refine ih (k + 1) s63 _ _ _ _ _ (by omega) (fun q x hq => by rw [r63 q x hq]; exact hr q x hq) ?_ ?_ ?_ (by omega)
                 · rw [fs, gq.1, if_neg (by omega)]
                 · rw [fs, gq.2, if_neg (by omega), if_neg (by omega)]
                 · rw [fs, go, if_neg (by omega)])
          · refine fm_ild9 dX9_order_127 ?_
            refine fm_goto 134 dX9_order_129 (by decide) ?_
            refine fm_ist4 rfl dX9_order_134 ?_
            refine fm_inc7 rfl dX9_order_136 ?_
            refine fm_goto 53 dX9_order_139 (by decide) ?_
            rw [show (k : Int) + 1 = ((k + 1 : Nat) : Int) by omega]
            first
              | (exfalso; omega)
              | (refine ih (k + 1) s63 _ _ _ _ _ (by omega) (fun q x hq => by rw [r63 q x hq]; exact hr q x hq) ?_ ?_ ?_ (by omega)
                 · rw [fs, gq.1, if_pos (by omega)]
                 · rw [fs, gq.2, if_pos (by omega)]
                 · rw [fs, go, if_pos (by omega)])
              | (refine ih (k + 1) s63 _ _ _ _ _ (by omega) (fun q x hq => by rw [r63 q x hq]; exact hr q x hq) ?_ ?_ ?_ (by omega)
                 · rw [fs, gq.1, if_neg (by omega)]
                 · rw [fs, gq.2, if_neg (by omega), if_pos (by omega)]
                 · rw [fs, go, if_neg (by omega)])
              | (refine ih (k + 1) s63 _ _ _ _ _ (by omega) (fun q x hq => by rw [r63 q x hq]; exact hr q x hq) ?_ ?_ ?_ (by omega)
                 · rw [fs, gq.1, if_neg (by omega)]
                 · rw [fs, gq.2, if_neg (by omega), if_neg (by omega)]
                 · rw [fs, go, if_neg (by omega)])
set_option maxRecDepth 20000 in
set_option maxHeartbeats 4000000 in
theorem k_X9_order {ω : fm_O} {σ : fm_Mem} (hi : fj σ) {n i : Int} (rn : fm_R n) (ri : fm_R i) : fm_Met km ω yX9_order cX9_order 10 (some .int) (fm_rm 1) [fm_r ω 0, fm_I n, fm_I i] σ (fm_pI fun z σ' => z = sp_order σ n i ∧ sam σ σ') := by
  refine fm_start (by decide) rfl (Nat.le_of_ble_eq_true rfl) [some (fm_r ω 0), some (fm_I n), some (fm_I i), none, none, none, none, none, none, none] rfl (fun Γ => ?_)
  refine fm_ild1 dX9_order_0 ?_
  refine fm_iconst dX9_order_1 ?_
  refine fm_bipush (by decide) dX9_order_2 ?_
  refine fm_csI dX9_order_4 cl_X9_77 (k_X9_in ⟨by omega, by omega⟩ ⟨by omega, by omega⟩ ⟨by omega, by omega⟩) rfl rfl (by decide) rfl rfl (Nat.le_of_ble_eq_true rfl) (fun z4 s4 q4 => ?_)
  obtain ⟨q4, rfl⟩ := q4
  refine fm_if_eq (⟨by omega, by omega⟩) 16 dX9_order_7 (by decide) (fun h7 => ?_) (fun h7 => ?_)
  · refine fm_iconst dX9_order_16 ?_
    refine fm_iretI dX9_order_17 rfl ?_
    unfold sp_order
    rw [if_pos (by omega)]
    exact ⟨rfl, sam.rfl⟩
  · refine fm_ild2 dX9_order_10 ?_
    refine fm_bipush (by decide) dX9_order_11 ?_
    refine fm_icmp_ge (⟨by omega, by omega⟩) (⟨by omega, by omega⟩) 18 dX9_order_13 (by decide) (fun h13 => ?_) (fun h13 => ?_)
    · obtain ⟨N, rfl⟩ : ∃ N : Nat, n = (N : Int) := ⟨n.toNat, by omega⟩
      refine fm_iconst dX9_order_18 ?_
      refine fm_ist3 rfl dX9_order_19 ?_
      refine fm_iconst dX9_order_20 ?_
      refine fm_ist4 rfl dX9_order_21 ?_
      refine l_mo1 (by omega) (by omega) (fun o4 => ?_) (N - 1) 2 (by omega) (by omega)
      have hN : N < 7 := by omega
      have hN2 : 2 ≤ N := by omega
      refine fm_ldc (n := 99999) ck_X9_122 (by decide) dX9_order_40 ?_
      refine fm_ist4 rfl dX9_order_42 ?_
      refine fm_iconst dX9_order_44 ?_
      refine fm_ist5 rfl dX9_order_45 ?_
      refine fm_iconst dX9_order_47 ?_
      refine fm_ist6 rfl dX9_order_48 ?_
      refine fm_iconst dX9_order_50 ?_
      refine fm_ist7 rfl dX9_order_51 ?_
      exact l_mo2 hi hN hN2 ri (by omega) (fct N) 0 σ 99999 0 0 _ _ (by omega) (fun _ _ _ => rfl) rfl rfl rfl (by omega)
    · refine fm_iconst dX9_order_16 ?_
      refine fm_iretI dX9_order_17 rfl ?_
      unfold sp_order
      rw [if_pos (by omega)]
      exact ⟨rfl, sam.rfl⟩
