set_option maxRecDepth 20000 in
set_option maxHeartbeats 4000000 in
theorem k_X9_pairCost {ω : fm_O} {σ : fm_Mem} {x i y j : Int} (hf : fi σ) (hx : 0 ≤ x ∧ x ≤ 6) (hi : 0 ≤ i ∧ i < 40) (hy : 0 ≤ y ∧ y ≤ 6) (hj : 0 ≤ j ∧ j < 40) : fm_Met km ω yX9_pairCost cX9_pairCost 6 (some .int) (fm_rm 0) [fm_r ω 0, fm_I x, fm_I i, fm_I y, fm_I j] σ (fm_pI fun z σ' => z = pcost (σ 2 (40 * x + i).toNat) (σ 2 (40 * y + j).toNat) ∧ σ = σ') := by
  refine fm_start (by decide) rfl (Nat.le_of_ble_eq_true rfl) [some (fm_r ω 0), some (fm_I x), some (fm_I i), some (fm_I y), some (fm_I j), none] rfl (fun Γ => ?_)
  have m1 := hf.2.2.2.1 (40 * x + i).toNat
  have m2 := hf.2.2.2.1 (40 * y + j).toNat
  refine fm_ald0 dX9_pairCost_0 ?_
  refine gr_8_2 dX9_pairCost_1 fd_X9_13 ?_
  refine fm_bipush (by decide) dX9_pairCost_4 ?_
  refine fm_ild1 dX9_pairCost_6 ?_
  refine fm_imul dX9_pairCost_7 ?_
  refine fm_ild2 dX9_pairCost_8 ?_
  refine fm_iadd dX9_pairCost_9 ?_
  refine fm_iald dX9_pairCost_10 ma_2 (by omega) (by omega) ?_
  refine fm_ald0 dX9_pairCost_11 ?_
  refine gr_8_2 dX9_pairCost_12 fd_X9_13 ?_
  refine fm_bipush (by decide) dX9_pairCost_15 ?_
  refine fm_ild3 dX9_pairCost_17 ?_
  refine fm_imul dX9_pairCost_18 ?_
  refine fm_ild4 dX9_pairCost_19 ?_
  refine fm_iadd dX9_pairCost_21 ?_
  refine fm_iald dX9_pairCost_22 ma_2 (by omega) (by omega) ?_
  refine fm_isub dX9_pairCost_23 ?_
  refine fm_ist5 rfl dX9_pairCost_24 ?_
  refine fm_ild5 dX9_pairCost_26 ?_
  refine fm_if_ge (⟨by omega, by omega⟩) 37 dX9_pairCost_28 (by decide) (fun h28 => ?_) (fun h28 => ?_)
  · refine fm_ild5 dX9_pairCost_37 ?_
    refine fm_ist5 rfl dX9_pairCost_39 ?_
    refine fm_ild5 dX9_pairCost_41 ?_
    refine fm_iconst dX9_pairCost_43 ?_
    refine fm_icmp_le (⟨by omega, by omega⟩) (⟨by omega, by omega⟩) 51 dX9_pairCost_44 (by decide) (fun h44 => ?_) (fun h44 => ?_)
    · refine fm_ild5 dX9_pairCost_51 ?_
      refine fm_iretI dX9_pairCost_53 rfl ⟨?_, rfl⟩
      unfold pcost
      split <;> omega
    · refine fm_iconst dX9_pairCost_47 ?_
      refine fm_goto 53 dX9_pairCost_48 (by decide) ?_
      refine fm_iretI dX9_pairCost_53 rfl ⟨?_, rfl⟩
      unfold pcost
      split <;> omega
  · refine fm_ild5 dX9_pairCost_31 ?_
    refine fm_ineg dX9_pairCost_33 ?_
    refine fm_goto 39 dX9_pairCost_34 (by decide) ?_
    refine fm_ist5 rfl dX9_pairCost_39 ?_
    refine fm_ild5 dX9_pairCost_41 ?_
    refine fm_iconst dX9_pairCost_43 ?_
    refine fm_icmp_le (⟨by omega, by omega⟩) (⟨by omega, by omega⟩) 51 dX9_pairCost_44 (by decide) (fun h44 => ?_) (fun h44 => ?_)
    · refine fm_ild5 dX9_pairCost_51 ?_
      refine fm_iretI dX9_pairCost_53 rfl ⟨?_, rfl⟩
      unfold pcost
      split <;> omega
    · refine fm_iconst dX9_pairCost_47 ?_
      refine fm_goto 53 dX9_pairCost_48 (by decide) ?_
      refine fm_iretI dX9_pairCost_53 rfl ⟨?_, rfl⟩
      unfold pcost
      split <;> omega
def lf (σ : fm_Mem) (x : Int) : Nat → Int := fun k => σ 2 (40 * x.toNat + k)
def fr1 (σ τ : fm_Mem) : Prop := ∀ k j, k ≠ 16 → k ≠ 17 → τ k j = σ k j
def tbl (f g : Nat → Int) (N M : Nat) (τ : fm_Mem) (i j : Int) : Prop := ∀ a b : Nat, a ≤ N → b ≤ M → (i < a ∨ (i = a ∧ j < b)) → τ 16 (41 * a + b) = lct f g N M a b
theorem fr1.fi {σ τ : fm_Mem} (h : fi σ) (hr : fr1 σ τ) : fi τ := by
  obtain ⟨i1, i2, i3, i4, i5, i6, i7, i8, i9, i10, i11, i12, i13, i14, i15⟩ := h
  have z : ∀ k j, k ≠ 16 → k ≠ 17 → τ k j = σ k j := hr
  refine ⟨by rw [z _ _ (by omega) (by omega)]; exact i1, fun c hc => by rw [z _ _ (by omega) (by omega)]; exact i2 c hc, fun c hc hm => by rw [z _ _ (by omega) (by omega)] at hm ⊢; exact i3 c hc hm, fun q => by rw [z _ _ (by omega) (by omega)]; exact i4 q, fun q => by rw [z _ _ (by omega) (by omega)]; exact i5 q, fun q => by rw [z _ _ (by omega) (by omega)]; exact i6 q, fun q => by rw [z _ _ (by omega) (by omega)]; exact i7 q, fun q => by rw [z _ _ (by omega) (by omega)]; exact i8 q, by rw [z _ _ (by omega) (by omega)]; exact i9, by rw [z _ _ (by omega) (by omega)]; exact i10, fun q => by rw [z 7 _ (by omega) (by omega), z 8 _ (by omega) (by omega), z 9 _ (by omega) (by omega), z 10 _ (by omega) (by omega)]; exact i11 q, by rw [z _ _ (by omega) (by omega)]; exact i12, fun q => by rw [z 11 _ (by omega) (by omega), z 12 _ (by omega) (by omega), z 13 _ (by omega) (by omega)]; exact i13 q, by rw [z _ _ (by omega) (by omega)]; exact i14, fun q => by rw [z 14 _ (by omega) (by omega), z 15 _ (by omega) (by omega)]; exact i15 q⟩
theorem fr1.up {a b : fm_Mem} {k j : Nat} {v : Int} (h : fr1 a b) (hk : k = 16 ∨ k = 17) : fr1 a (fm_up b k j v) := fun k2 j2 h1 h2 => by
  rw [fm_up_ne (by omega)]
  exact h k2 j2 h1 h2
theorem fr1.sam {a b : fm_Mem} (h : fr1 a b) : sam a b := fun k j hk => h k j (by omega) (by omega)
theorem fr1.trans {a b c : fm_Mem} (h : fr1 a b) (h2 : fr1 b c) : fr1 a c := fun k j h3 h4 => (h2 k j h3 h4).trans (h k j h3 h4)
theorem lup_up (τ : fm_Mem) (q i : Nat) (v : Int) : fm_up τ q i v q = lup (τ q) i v := by funext k; simp [fm_up, lup]
theorem fr1.rfl {a : fm_Mem} : fr1 a a := fun _ _ _ _ => Eq.refl _
set_option maxRecDepth 20000 in
set_option maxHeartbeats 4000000 in
theorem l_lines_in {ω : fm_O} {σ : fm_Mem} {Γ : fm_G} {P : Option Value → fm_Mem → Prop} {x y : Int} (hf : fi σ) (hx : 0 ≤ x ∧ x ≤ 6) (hy : 0 ≤ y ∧ y ≤ 6) (N M : Nat) (hN : N ≤ 40) (hM : M ≤ 40) {i : Int} (hi : 0 ≤ i ∧ i ≤ N) (hK : ∀ (τ : fm_Mem) (j o7 : Option Value), fr1 σ τ → tbl (lf σ x) (lf σ y) N M τ i (-1) → fm_W km ω Γ (cX9_lines, RX9, fm_rm 1, 8, none) P τ 226 [some (fm_r ω 0), some (fm_I x), some (fm_I y), some (fm_I (N : Int)), some (fm_I (M : Int)), some (fm_I i), j, o7] []) : ∀ (d : Nat) (j : Int) (τ : fm_Mem) (o7 : Option Value), j + 1 = d → j ≤ M → fr1 σ τ → tbl (lf σ x) (lf σ y) N M τ i j → fm_W km ω Γ (cX9_lines, RX9, fm_rm 1, 8, none) P τ 27 [some (fm_r ω 0), some (fm_I x), some (fm_I y), some (fm_I (N : Int)), some (fm_I (M : Int)), some (fm_I i), some (fm_I j), o7] [] := by
  intro d
  induction d with
  | zero =>
    intro j τ o7 hd hj hr ht
    refine fm_ild6 dX9_lines_27 ?_
    refine fm_if_lt (⟨by omega, by omega⟩) 226 dX9_lines_29 (by decide) (fun h29 => ?_) (fun h29 => ?_)
    · exact hK τ _ o7 hr (by rw [show (-1 : Int) = j by omega]; exact ht)
    · exfalso; omega
  | succ d ih =>
    intro j τ o7 hd hj hr ht
    have hft := hr.fi hf
    obtain ⟨V, hV⟩ : ∃ V, V = lct (lf σ x) (lf σ y) N M i.toNat j.toNat := ⟨_, rfl⟩
    obtain ⟨Lv, hLv⟩ : ∃ V, V = lct (lf σ x) (lf σ y) N M i.toNat (j.toNat + 1) := ⟨_, rfl⟩
    obtain ⟨Uv, hUv⟩ : ∃ V, V = lct (lf σ x) (lf σ y) N M (i.toNat + 1) j.toNat := ⟨_, rfl⟩
    obtain ⟨Dv, hDv⟩ : ∃ V, V = lct (lf σ x) (lf σ y) N M (i.toNat + 1) (j.toNat + 1) := ⟨_, rfl⟩
    obtain ⟨Pv, hPv⟩ : ∃ V, V = pcost ((lf σ x) i.toNat) ((lf σ y) j.toNat) := ⟨_, rfl⟩
    have bV : 0 ≤ V ∧ V ≤ 240 := by rw [hV]; exact lct_b hN hM
    have bL : 0 ≤ Lv ∧ Lv ≤ 240 := by rw [hLv]; exact lct_b hN hM
    have bU : 0 ≤ Uv ∧ Uv ≤ 240 := by rw [hUv]; exact lct_b hN hM
    have bD : 0 ≤ Dv ∧ Dv ≤ 240 := by rw [hDv]; exact lct_b hN hM
    have bP : 0 ≤ Pv ∧ Pv ≤ 5 := by rw [hPv]; exact pcost_b _ _
    have c1 : i < N → j < M → V = min (3 + min Lv Uv) (Pv + Dv) := fun a b => by rw [hV, hLv, hUv, hDv, hPv, lct_s (by omega) (by omega)]
    have c2 : ¬ i < N → V = 3 * (M - j) := fun a => by rw [hV, show i.toNat = N by omega, lct_n (by omega)]; omega
    have c3 : ¬ j < M → V = 3 * (N - i) := fun a => by rw [hV, show j.toNat = M by omega, lct_m (by omega)]; omega
    have c4 : ¬ i < N → j < M → Lv = 3 * (M - j - 1) := fun a b => by rw [hLv, show i.toNat = N by omega, lct_n (by omega)]; omega
    have c5 : i < N → ¬ j < M → Uv = 3 * (N - i - 1) := fun a b => by rw [hUv, show j.toNat = M by omega, lct_m (by omega)]; omega
    have rL : j < M → τ 16 (41 * i + j + 1).toNat = Lv := fun a => by rw [hLv, ← ht i.toNat (j.toNat + 1) (by omega) (by omega) (by omega)]; congr 1 <;> omega
    have rU : i < N → τ 16 (41 * i + 41 + j).toNat = Uv := fun a => by rw [hUv, ← ht (i.toNat + 1) j.toNat (by omega) (by omega) (by omega)]; congr 1 <;> omega
    have rD : i < N → j < M → τ 16 (41 * i + 41 + j + 1).toNat = Dv := fun a b => by rw [hDv, ← ht (i.toNat + 1) (j.toNat + 1) (by omega) (by omega) (by omega)]; congr 1 <;> omega
    have rP : pcost (τ 2 (40 * x + i).toNat) (τ 2 (40 * y + j).toNat) = Pv := by
      rw [hPv, hr 2 _ (by omega) (by omega), hr 2 _ (by omega) (by omega)]
      unfold lf
      rw [show 40 * x.toNat + i.toNat = (40 * x + i).toNat by omega, show 40 * y.toNat + j.toNat = (40 * y + j).toNat by omega]
    have J205 : ∀ b9 : Int, b9 = V → fm_W km ω Γ (cX9_lines, RX9, fm_rm 1, 8, none) P τ 205 [some (fm_r ω 0), some (fm_I x), some (fm_I y), some (fm_I (N : Int)), some (fm_I (M : Int)), some (fm_I i), some (fm_I j), some (fm_I b9)] [] := by
      intro b9 hb9
      refine fm_ald0 dX9_lines_205 ?_
      refine gr_8_19 dX9_lines_206 fd_X9_55 ?_
      refine fm_bipush (by decide) dX9_lines_209 ?_
      refine fm_ild5 dX9_lines_211 ?_
      refine fm_imul dX9_lines_213 ?_
      refine fm_ild6 dX9_lines_214 ?_
      refine fm_iadd dX9_lines_216 ?_
      refine fm_ild7 dX9_lines_217 ?_
      refine fm_iast dX9_lines_219 ma_16 (by omega) (by omega) ?_
      refine fm_inc6 rfl dX9_lines_220 ?_
      refine fm_goto 27 dX9_lines_223 (by decide) ?_
      refine ih (j + -1) _ _ (by omega) (by omega) (hr.up (Or.inl rfl)) (fun a b ha hb hab => ?_)
      by_cases e : 41 * a + b = (41 * i + j).toNat
      · rw [e, fm_up_eq, hb9, hV, show i.toNat = a by omega, show j.toNat = b by omega]
      · rw [fm_up_nj e]
        exact ht a b ha hb (by omega)
    have J151 : ∀ b9 : Int, (0 ≤ b9 ∧ b9 ≤ 9999) → (i < N → V = min b9 (Uv + 3)) → (¬ i < N → V = b9) → fm_W km ω Γ (cX9_lines, RX9, fm_rm 1, 8, none) P τ 151 [some (fm_r ω 0), some (fm_I x), some (fm_I y), some (fm_I (N : Int)), some (fm_I (M : Int)), some (fm_I i), some (fm_I j), some (fm_I b9)] [] := by
      intro b9 hb0 hb1 hb2
      refine fm_ild5 dX9_lines_151 ?_
      refine fm_ild3 dX9_lines_153 ?_
      refine fm_icmp_ge (⟨by omega, by omega⟩) (⟨by omega, by omega⟩) 201 dX9_lines_154 (by decide) (fun h154 => ?_) (fun h154 => ?_)
      · refine fm_ild7 dX9_lines_201 ?_
        refine fm_ist7 rfl dX9_lines_203 ?_
        exact J205 _ (by omega)
      · refine fm_ald0 dX9_lines_157 ?_
        refine gr_8_19 dX9_lines_158 fd_X9_55 ?_
        refine fm_bipush (by decide) dX9_lines_161 ?_
        refine fm_ild5 dX9_lines_163 ?_
        refine fm_imul dX9_lines_165 ?_
        refine fm_bipush (by decide) dX9_lines_166 ?_
        refine fm_iadd dX9_lines_168 ?_
        refine fm_ild6 dX9_lines_169 ?_
        refine fm_iadd dX9_lines_171 ?_
        refine fm_iald dX9_lines_172 ma_16 (by omega) (by omega) ?_
        rw [rU (by omega)]
        refine fm_iconst dX9_lines_173 ?_
        refine fm_iadd dX9_lines_174 ?_
        refine fm_ild7 dX9_lines_175 ?_
        refine fm_icmp_ge (⟨by omega, by omega⟩) (⟨by omega, by omega⟩) 201 dX9_lines_177 (by decide) (fun h177 => ?_) (fun h177 => ?_)
        · refine fm_ild7 dX9_lines_201 ?_
          refine fm_ist7 rfl dX9_lines_203 ?_
          exact J205 _ (by omega)
        · refine fm_ald0 dX9_lines_180 ?_
          refine gr_8_19 dX9_lines_181 fd_X9_55 ?_
          refine fm_bipush (by decide) dX9_lines_184 ?_
          refine fm_ild5 dX9_lines_186 ?_
          refine fm_imul dX9_lines_188 ?_
          refine fm_bipush (by decide) dX9_lines_189 ?_
          refine fm_iadd dX9_lines_191 ?_
          refine fm_ild6 dX9_lines_192 ?_
          refine fm_iadd dX9_lines_194 ?_
          refine fm_iald dX9_lines_195 ma_16 (by omega) (by omega) ?_
          try rw [rU (by omega)]
          refine fm_iconst dX9_lines_196 ?_
          refine fm_iadd dX9_lines_197 ?_
          refine fm_goto 203 dX9_lines_198 (by decide) ?_
          refine fm_ist7 rfl dX9_lines_203 ?_
          exact J205 _ (by omega)
    have J98 : ∀ b9 : Int, (0 ≤ b9 ∧ b9 ≤ 9999) → (j < M → i < N → V = min (min b9 (Lv + 3)) (Uv + 3)) → (j < M → ¬ i < N → V = min b9 (Lv + 3)) → (¬ j < M → i < N → V = min b9 (Uv + 3)) → (¬ j < M → ¬ i < N → V = b9) → fm_W km ω Γ (cX9_lines, RX9, fm_rm 1, 8, none) P τ 98 [some (fm_r ω 0), some (fm_I x), some (fm_I y), some (fm_I (N : Int)), some (fm_I (M : Int)), some (fm_I i), some (fm_I j), some (fm_I b9)] [] := by
      intro b9 hb0 hb1 hb2 hb3 hb4
      refine fm_ild6 dX9_lines_98 ?_
      refine fm_ild4 dX9_lines_100 ?_
      refine fm_icmp_ge (⟨by omega, by omega⟩) (⟨by omega, by omega⟩) 147 dX9_lines_102 (by decide) (fun h102 => ?_) (fun h102 => ?_)
      · refine fm_ild7 dX9_lines_147 ?_
        refine fm_ist7 rfl dX9_lines_149 ?_
        exact J151 _ (by omega) (by omega) (by omega)
      · refine fm_ald0 dX9_lines_105 ?_
        refine gr_8_19 dX9_lines_106 fd_X9_55 ?_
        refine fm_bipush (by decide) dX9_lines_109 ?_
        refine fm_ild5 dX9_lines_111 ?_
        refine fm_imul dX9_lines_113 ?_
        refine fm_ild6 dX9_lines_114 ?_
        refine fm_iadd dX9_lines_116 ?_
        refine fm_iconst dX9_lines_117 ?_
        refine fm_iadd dX9_lines_118 ?_
        refine fm_iald dX9_lines_119 ma_16 (by omega) (by omega) ?_
        rw [rL (by omega)]
        refine fm_iconst dX9_lines_120 ?_
        refine fm_iadd dX9_lines_121 ?_
        refine fm_ild7 dX9_lines_122 ?_
        refine fm_icmp_ge (⟨by omega, by omega⟩) (⟨by omega, by omega⟩) 147 dX9_lines_124 (by decide) (fun h124 => ?_) (fun h124 => ?_)
        · refine fm_ild7 dX9_lines_147 ?_
          refine fm_ist7 rfl dX9_lines_149 ?_
          exact J151 _ (by omega) (by omega) (by omega)
        · refine fm_ald0 dX9_lines_127 ?_
          refine gr_8_19 dX9_lines_128 fd_X9_55 ?_
          refine fm_bipush (by decide) dX9_lines_131 ?_
          refine fm_ild5 dX9_lines_133 ?_
          refine fm_imul dX9_lines_135 ?_
          refine fm_ild6 dX9_lines_136 ?_
          refine fm_iadd dX9_lines_138 ?_
          refine fm_iconst dX9_lines_139 ?_
          refine fm_iadd dX9_lines_140 ?_
          refine fm_iald dX9_lines_141 ma_16 (by omega) (by omega) ?_
          try rw [rL (by omega)]
          refine fm_iconst dX9_lines_142 ?_
          refine fm_iadd dX9_lines_143 ?_
          refine fm_goto 149 dX9_lines_144 (by decide) ?_
          refine fm_ist7 rfl dX9_lines_149 ?_
          exact J151 _ (by omega) (by omega) (by omega)
    have J54 : ∀ b9 : Int, (i = N ∧ j = M → b9 = 0) → (¬ (i = N ∧ j = M) → b9 = 9999) → fm_W km ω Γ (cX9_lines, RX9, fm_rm 1, 8, none) P τ 54 [some (fm_r ω 0), some (fm_I x), some (fm_I y), some (fm_I (N : Int)), some (fm_I (M : Int)), some (fm_I i), some (fm_I j), some (fm_I b9)] [] := by
      intro b9 hb0 hb1
      refine fm_ild5 dX9_lines_54 ?_
      refine fm_ild3 dX9_lines_56 ?_
      refine fm_icmp_ge (⟨by omega, by omega⟩) (⟨by omega, by omega⟩) 98 dX9_lines_57 (by decide) (fun h57 => ?_) (fun h57 => ?_)
      · exact J98 _ (by omega) (by omega) (by omega) (by omega) (by omega)
      · refine fm_ild6 dX9_lines_60 ?_
        refine fm_ild4 dX9_lines_62 ?_
        refine fm_icmp_ge (⟨by omega, by omega⟩) (⟨by omega, by omega⟩) 98 dX9_lines_64 (by decide) (fun h64 => ?_) (fun h64 => ?_)
        · exact J98 _ (by omega) (by omega) (by omega) (by omega) (by omega)
        · refine fm_ald0 dX9_lines_67 ?_
          refine gr_8_19 dX9_lines_68 fd_X9_55 ?_
          refine fm_bipush (by decide) dX9_lines_71 ?_
          refine fm_ild5 dX9_lines_73 ?_
          refine fm_imul dX9_lines_75 ?_
          refine fm_bipush (by decide) dX9_lines_76 ?_
          refine fm_iadd dX9_lines_78 ?_
          refine fm_ild6 dX9_lines_79 ?_
          refine fm_iadd dX9_lines_81 ?_
          refine fm_iconst dX9_lines_82 ?_
          refine fm_iadd dX9_lines_83 ?_
          refine fm_iald dX9_lines_84 ma_16 (by omega) (by omega) ?_
          rw [rD (by omega) (by omega)]
          refine fm_ald0 dX9_lines_85 ?_
          refine fm_ild1 dX9_lines_86 ?_
          refine fm_ild5 dX9_lines_87 ?_
          refine fm_ild2 dX9_lines_89 ?_
          refine fm_ild6 dX9_lines_90 ?_
          refine fm_cvI dX9_lines_92 cl_X9_102 (k_X9_pairCost hft (by omega) (by omega) (by omega) (by omega)) mb_0 rfl rfl (by decide) rfl rfl (Nat.le_of_ble_eq_true rfl) (fun z92 s92 q92 => ?_)
          obtain ⟨rfl, rfl⟩ := q92
          rw [rP]
          refine fm_iadd dX9_lines_95 ?_
          refine fm_ist7 rfl dX9_lines_96 ?_
          exact J98 _ (by omega) (by omega) (by omega) (by omega) (by omega)
    refine fm_ild6 dX9_lines_27 ?_
    refine fm_if_lt (⟨by omega, by omega⟩) 226 dX9_lines_29 (by decide) (fun h29 => ?_) (fun h29 => ?_)
    · exfalso; omega
    · refine fm_ild5 dX9_lines_32 ?_
      refine fm_ild3 dX9_lines_34 ?_
      refine fm_icmp_ne (⟨by omega, by omega⟩) (⟨by omega, by omega⟩) 49 dX9_lines_35 (by decide) (fun h35 => ?_) (fun h35 => ?_)
      · refine fm_sipush (by decide) dX9_lines_49 ?_
        refine fm_ist7 rfl dX9_lines_52 ?_
        exact J54 _ (by omega) (by omega)
      · refine fm_ild6 dX9_lines_38 ?_
        refine fm_ild4 dX9_lines_40 ?_
        refine fm_icmp_ne (⟨by omega, by omega⟩) (⟨by omega, by omega⟩) 49 dX9_lines_42 (by decide) (fun h42 => ?_) (fun h42 => ?_)
        · refine fm_sipush (by decide) dX9_lines_49 ?_
          refine fm_ist7 rfl dX9_lines_52 ?_
          exact J54 _ (by omega) (by omega)
        · refine fm_iconst dX9_lines_45 ?_
          refine fm_goto 52 dX9_lines_46 (by decide) ?_
          refine fm_ist7 rfl dX9_lines_52 ?_
          exact J54 _ (by omega) (by omega)
set_option maxRecDepth 20000 in
set_option maxHeartbeats 4000000 in
theorem l_lines_out {ω : fm_O} {σ : fm_Mem} {Γ : fm_G} {P : Option Value → fm_Mem → Prop} {x y : Int} (hf : fi σ) (hx : 0 ≤ x ∧ x ≤ 6) (hy : 0 ≤ y ∧ y ≤ 6) (N M : Nat) (hN : N ≤ 40) (hM : M ≤ 40) (hK : ∀ (τ : fm_Mem) (o5 o6 o7 : Option Value), fr1 σ τ → tbl (lf σ x) (lf σ y) N M τ (-1) M → fm_W km ω Γ (cX9_lines, RX9, fm_rm 1, 8, none) P τ 232 [some (fm_r ω 0), some (fm_I x), some (fm_I y), some (fm_I (N : Int)), some (fm_I (M : Int)), o5, o6, o7] []) : ∀ (d : Nat) (i : Int) (τ : fm_Mem) (o6 o7 : Option Value), i + 1 = d → i ≤ N → fr1 σ τ → tbl (lf σ x) (lf σ y) N M τ i M → fm_W km ω Γ (cX9_lines, RX9, fm_rm 1, 8, none) P τ 18 [some (fm_r ω 0), some (fm_I x), some (fm_I y), some (fm_I (N : Int)), some (fm_I (M : Int)), some (fm_I i), o6, o7] [] := by
  intro d
  induction d with
  | zero =>
    intro i τ o6 o7 hd hi hr ht
    refine fm_ild5 dX9_lines_18 ?_
    refine fm_if_lt (⟨by omega, by omega⟩) 232 dX9_lines_20 (by decide) (fun h20 => ?_) (fun h20 => ?_)
    · exact hK τ _ _ _ hr (by rw [show (-1 : Int) = i by omega]; exact ht)
    · exfalso; omega
  | succ d ih =>
    intro i τ o6 o7 hd hi hr ht
    have hK2 : ∀ (τ : fm_Mem) (j o7 : Option Value), fr1 σ τ → tbl (lf σ x) (lf σ y) N M τ i (-1) → fm_W km ω Γ (cX9_lines, RX9, fm_rm 1, 8, none) P τ 226 [some (fm_r ω 0), some (fm_I x), some (fm_I y), some (fm_I (N : Int)), some (fm_I (M : Int)), some (fm_I i), j, o7] [] := by
      intro τ j o7 hr ht
      refine fm_inc5 rfl dX9_lines_226 ?_
      refine fm_goto 18 dX9_lines_229 (by decide) ?_
      exact ih (i + -1) τ _ _ (by omega) (by omega) hr (fun a b ha hb hab => ht a b ha hb (by omega))
    refine fm_ild5 dX9_lines_18 ?_
    refine fm_if_lt (⟨by omega, by omega⟩) 232 dX9_lines_20 (by decide) (fun h20 => ?_) (fun h20 => ?_)
    · exfalso; omega
    · refine fm_ild4 dX9_lines_23 ?_
      refine fm_ist6 rfl dX9_lines_25 ?_
      exact l_lines_in hf hx hy N M hN hM (by omega) hK2 (M + 1) (M : Int) τ _ (by omega) (by omega) hr (fun a b ha hb hab => ht a b ha hb hab)
set_option maxRecDepth 20000 in
set_option maxHeartbeats 4000000 in
theorem l_lines_tr {ω : fm_O} {σ τ0 : fm_Mem} {Γ : fm_G} {x y : Int} (hf : fi σ) (hx : 0 ≤ x ∧ x ≤ 6) (hy : 0 ≤ y ∧ y ≤ 6) (N M : Nat) (hN : N ≤ 40) (hM : M ≤ 40) (hr0 : fr1 σ τ0) (ht : ∀ a b : Nat, a ≤ N → b ≤ M → τ0 16 (41 * a + b) = lct (lf σ x) (lf σ y) N M a b) : ∀ (d i j : Nat) (τ : fm_Mem) (o7 : Option Value), (N - i) + (M - j) ≤ d → i ≤ N → j ≤ M → (∀ k q, k ≠ 17 → τ k q = τ0 k q) → (∀ k, k < N → lpa (lf σ x) (lf σ y) N M i j (τ 17) k = lpt (lf σ x) (lf σ y) N M k) → fm_W km ω Γ (cX9_lines, RX9, fm_rm 1, 8, none) (fm_pN fun σ' => fr1 σ σ' ∧ (∀ a b : Nat, a ≤ N → b ≤ M → σ' 16 (41 * a + b) = lct (lf σ x) (lf σ y) N M a b) ∧ ∀ k, k < N → σ' 17 k = lpt (lf σ x) (lf σ y) N M k) τ 238 [some (fm_r ω 0), some (fm_I x), some (fm_I y), some (fm_I (N : Int)), some (fm_I (M : Int)), some (fm_I (j : Int)), some (fm_I (i : Int)), o7] [] := by
  intro d
  induction d with
  | zero =>
    intro i j τ o7 hd hi hj hr hp
    refine fm_ild6 dX9_lines_238 ?_
    refine fm_ild3 dX9_lines_240 ?_
    refine fm_icmp_ge (⟨by omega, by omega⟩) (⟨by omega, by omega⟩) 368 dX9_lines_241 (by decide) (fun h241 => ?_) (fun h241 => ?_)
    · refine fm_vretN dX9_lines_368 rfl ⟨fun k q h1 h2 => (hr k q h2).trans (hr0 k q h1 h2), fun a b ha hb => by rw [hr _ _ (by omega)]; exact ht a b ha hb, fun k hk => ?_⟩
      rw [← hp k hk, lpa_end (by omega)]
    · exfalso; omega
  | succ d ih =>
    intro i j τ o7 hd hi hj hr hp
    have hft : fi τ := fr1.fi hf (fun k q h1 h2 => (hr k q h2).trans (hr0 k q h1 h2))
    have r0 : τ 16 (41 * (i : Int) + j).toNat = lct (lf σ x) (lf σ y) N M i j := by rw [hr _ _ (by omega), ← ht i j (by omega) (by omega)]; congr 1 <;> omega
    have rD : i < N → j < M → τ 16 (41 * (i : Int) + 41 + j + 1).toNat = lct (lf σ x) (lf σ y) N M (i + 1) (j + 1) := fun a b => by rw [hr _ _ (by omega), ← ht (i + 1) (j + 1) (by omega) (by omega)]; congr 1 <;> omega
    have rL : j < M → τ 16 (41 * (i : Int) + j + 1).toNat = lct (lf σ x) (lf σ y) N M i (j + 1) := fun b => by rw [hr _ _ (by omega), ← ht i (j + 1) (by omega) (by omega)]; congr 1 <;> omega
    have rP : pcost (τ 2 (40 * x + (i : Int)).toNat) (τ 2 (40 * y + (j : Int)).toNat) = pcost ((lf σ x) i) ((lf σ y) j) := by
      rw [hr 2 _ (by omega), hr 2 _ (by omega), hr0 2 _ (by omega) (by omega), hr0 2 _ (by omega) (by omega)]
      unfold lf
      rw [show 40 * x.toNat + i = (40 * x + (i : Int)).toNat by omega, show 40 * y.toNat + j = (40 * y + (j : Int)).toNat by omega]
    have b0 := lct_b (f := (lf σ x)) (g := (lf σ y)) (i := i) (j := j) hN hM
    have bD := lct_b (f := (lf σ x)) (g := (lf σ y)) (i := i + 1) (j := j + 1) hN hM
    have bL := lct_b (f := (lf σ x)) (g := (lf σ y)) (i := i) (j := j + 1) hN hM
    have bP := pcost_b ((lf σ x) i) ((lf σ y) j)
    refine fm_ild6 dX9_lines_238 ?_
    refine fm_ild3 dX9_lines_240 ?_
    refine fm_icmp_ge (⟨by omega, by omega⟩) (⟨by omega, by omega⟩) 368 dX9_lines_241 (by decide) (fun h241 => ?_) (fun h241 => ?_)
    · refine fm_vretN dX9_lines_368 rfl ⟨fun k q h1 h2 => (hr k q h2).trans (hr0 k q h1 h2), fun a b ha hb => by rw [hr _ _ (by omega)]; exact ht a b ha hb, fun k hk => ?_⟩
      rw [← hp k hk, lpa_end (by omega)]
    · refine fm_ald0 dX9_lines_244 ?_
      refine gr_8_19 dX9_lines_245 fd_X9_55 ?_
      refine fm_bipush (by decide) dX9_lines_248 ?_
      refine fm_ild6 dX9_lines_250 ?_
      refine fm_imul dX9_lines_252 ?_
      refine fm_ild5 dX9_lines_253 ?_
      refine fm_iadd dX9_lines_255 ?_
      refine fm_iald dX9_lines_256 ma_16 (by omega) (by omega) ?_
      rw [r0]
      refine fm_ist7 rfl dX9_lines_257 ?_
      refine fm_ild5 dX9_lines_259 ?_
      refine fm_ild4 dX9_lines_261 ?_
      refine fm_icmp_ge (⟨by omega, by omega⟩) (⟨by omega, by omega⟩) 318 dX9_lines_263 (by decide) (fun h263 => ?_) (fun h263 => ?_)
      · refine fm_ild5 dX9_lines_318 ?_
        refine fm_ild4 dX9_lines_320 ?_
        refine fm_icmp_ge (⟨by omega, by omega⟩) (⟨by omega, by omega⟩) 353 dX9_lines_322 (by decide) (fun h322 => ?_) (fun h322 => ?_)
        · refine fm_ald0 dX9_lines_353 ?_
          refine gr_8_20 dX9_lines_354 fd_X9_58 ?_
          refine fm_ild6 dX9_lines_357 ?_
          refine fm_bipush (by decide) dX9_lines_359 ?_
          refine fm_iast dX9_lines_361 ma_17 (by omega) (by omega) ?_
          refine fm_inc6 rfl dX9_lines_362 ?_
          refine fm_goto 238 dX9_lines_365 (by decide) ?_
          first
            | (exfalso; omega)
            | (rw [show (i : Int) + 1 = ((i + 1 : Nat) : Int) by omega, show (j : Int) + 1 = ((j + 1 : Nat) : Int) by omega]
               refine ih (i + 1) (j + 1) _ _ (by omega) (by omega) (by omega) (fun k q hk => by rw [fm_up_ne hk]; exact hr k q hk) (fun k hk => ?_)
               have e := hp k hk
               rw [lpa_1 (by omega) (by omega) (by omega)] at e
               rw [Int.toNat_natCast, lup_up]
               exact e)
            | (rw [show (j : Int) + 1 = ((j + 1 : Nat) : Int) by omega]
               refine ih i (j + 1) _ _ (by omega) (by omega) (by omega) hr (fun k hk => ?_)
               have e := hp k hk
               rw [lpa_2 (by omega) (by omega) (by omega) (by omega)] at e
               exact e)
            | (rw [show (i : Int) + 1 = ((i + 1 : Nat) : Int) by omega]
               refine ih (i + 1) j _ _ (by omega) (by omega) (by omega) (fun k q hk => by rw [fm_up_ne hk]; exact hr k q hk) (fun k hk => ?_)
               have e := hp k hk
               rw [lpa_3 (by omega) (by omega) (by omega)] at e
               rw [Int.toNat_natCast, lup_up]
               exact e)
        · refine fm_ild7 dX9_lines_325 ?_
          refine fm_ald0 dX9_lines_327 ?_
          refine gr_8_19 dX9_lines_328 fd_X9_55 ?_
          refine fm_bipush (by decide) dX9_lines_331 ?_
          refine fm_ild6 dX9_lines_333 ?_
          refine fm_imul dX9_lines_335 ?_
          refine fm_ild5 dX9_lines_336 ?_
          refine fm_iadd dX9_lines_338 ?_
          refine fm_iconst dX9_lines_339 ?_
          refine fm_iadd dX9_lines_340 ?_
          refine fm_iald dX9_lines_341 ma_16 (by omega) (by omega) ?_
          rw [rL (by omega)]
          refine fm_iconst dX9_lines_342 ?_
          refine fm_iadd dX9_lines_343 ?_
          refine fm_icmp_ne (⟨by omega, by omega⟩) (⟨by omega, by omega⟩) 353 dX9_lines_344 (by decide) (fun h344 => ?_) (fun h344 => ?_)
          · refine fm_ald0 dX9_lines_353 ?_
            refine gr_8_20 dX9_lines_354 fd_X9_58 ?_
            refine fm_ild6 dX9_lines_357 ?_
            refine fm_bipush (by decide) dX9_lines_359 ?_
            refine fm_iast dX9_lines_361 ma_17 (by omega) (by omega) ?_
            refine fm_inc6 rfl dX9_lines_362 ?_
            refine fm_goto 238 dX9_lines_365 (by decide) ?_
            first
              | (exfalso; omega)
              | (rw [show (i : Int) + 1 = ((i + 1 : Nat) : Int) by omega, show (j : Int) + 1 = ((j + 1 : Nat) : Int) by omega]
                 refine ih (i + 1) (j + 1) _ _ (by omega) (by omega) (by omega) (fun k q hk => by rw [fm_up_ne hk]; exact hr k q hk) (fun k hk => ?_)
                 have e := hp k hk
                 rw [lpa_1 (by omega) (by omega) (by omega)] at e
                 rw [Int.toNat_natCast, lup_up]
                 exact e)
              | (rw [show (j : Int) + 1 = ((j + 1 : Nat) : Int) by omega]
                 refine ih i (j + 1) _ _ (by omega) (by omega) (by omega) hr (fun k hk => ?_)
                 have e := hp k hk
                 rw [lpa_2 (by omega) (by omega) (by omega) (by omega)] at e
                 exact e)
              | (rw [show (i : Int) + 1 = ((i + 1 : Nat) : Int) by omega]
                 refine ih (i + 1) j _ _ (by omega) (by omega) (by omega) (fun k q hk => by rw [fm_up_ne hk]; exact hr k q hk) (fun k hk => ?_)
                 have e := hp k hk
                 rw [lpa_3 (by omega) (by omega) (by omega)] at e
                 rw [Int.toNat_natCast, lup_up]
                 exact e)
          · refine fm_inc5 rfl dX9_lines_347 ?_
            refine fm_goto 365 dX9_lines_350 (by decide) ?_
            refine fm_goto 238 dX9_lines_365 (by decide) ?_
            first
              | (exfalso; omega)
              | (rw [show (i : Int) + 1 = ((i + 1 : Nat) : Int) by omega, show (j : Int) + 1 = ((j + 1 : Nat) : Int) by omega]
                 refine ih (i + 1) (j + 1) _ _ (by omega) (by omega) (by omega) (fun k q hk => by rw [fm_up_ne hk]; exact hr k q hk) (fun k hk => ?_)
                 have e := hp k hk
                 rw [lpa_1 (by omega) (by omega) (by omega)] at e
                 rw [Int.toNat_natCast, lup_up]
                 exact e)
              | (rw [show (j : Int) + 1 = ((j + 1 : Nat) : Int) by omega]
                 refine ih i (j + 1) _ _ (by omega) (by omega) (by omega) hr (fun k hk => ?_)
                 have e := hp k hk
                 rw [lpa_2 (by omega) (by omega) (by omega) (by omega)] at e
                 exact e)
              | (rw [show (i : Int) + 1 = ((i + 1 : Nat) : Int) by omega]
                 refine ih (i + 1) j _ _ (by omega) (by omega) (by omega) (fun k q hk => by rw [fm_up_ne hk]; exact hr k q hk) (fun k hk => ?_)
                 have e := hp k hk
                 rw [lpa_3 (by omega) (by omega) (by omega)] at e
                 rw [Int.toNat_natCast, lup_up]
                 exact e)
      · refine fm_ild7 dX9_lines_266 ?_
        refine fm_ald0 dX9_lines_268 ?_
        refine gr_8_19 dX9_lines_269 fd_X9_55 ?_
        refine fm_bipush (by decide) dX9_lines_272 ?_
        refine fm_ild6 dX9_lines_274 ?_
        refine fm_imul dX9_lines_276 ?_
        refine fm_bipush (by decide) dX9_lines_277 ?_
        refine fm_iadd dX9_lines_279 ?_
        refine fm_ild5 dX9_lines_280 ?_
        refine fm_iadd dX9_lines_282 ?_
        refine fm_iconst dX9_lines_283 ?_
        refine fm_iadd dX9_lines_284 ?_
        refine fm_iald dX9_lines_285 ma_16 (by omega) (by omega) ?_
        rw [rD (by omega) (by omega)]
        refine fm_ald0 dX9_lines_286 ?_
        refine fm_ild1 dX9_lines_287 ?_
        refine fm_ild6 dX9_lines_288 ?_
        refine fm_ild2 dX9_lines_290 ?_
        refine fm_ild5 dX9_lines_291 ?_
        refine fm_cvI dX9_lines_293 cl_X9_102 (k_X9_pairCost hft (by omega) (by omega) (by omega) (by omega)) mb_0 rfl rfl (by decide) rfl rfl (Nat.le_of_ble_eq_true rfl) (fun z293 s293 q293 => ?_)
        obtain ⟨rfl, rfl⟩ := q293
        rw [rP]
        refine fm_iadd dX9_lines_296 ?_
        refine fm_icmp_ne (⟨by omega, by omega⟩) (⟨by omega, by omega⟩) 318 dX9_lines_297 (by decide) (fun h297 => ?_) (fun h297 => ?_)
        · refine fm_ild5 dX9_lines_318 ?_
          refine fm_ild4 dX9_lines_320 ?_
          refine fm_icmp_ge (⟨by omega, by omega⟩) (⟨by omega, by omega⟩) 353 dX9_lines_322 (by decide) (fun h322 => ?_) (fun h322 => ?_)
          · refine fm_ald0 dX9_lines_353 ?_
            refine gr_8_20 dX9_lines_354 fd_X9_58 ?_
            refine fm_ild6 dX9_lines_357 ?_
            refine fm_bipush (by decide) dX9_lines_359 ?_
            refine fm_iast dX9_lines_361 ma_17 (by omega) (by omega) ?_
            refine fm_inc6 rfl dX9_lines_362 ?_
            refine fm_goto 238 dX9_lines_365 (by decide) ?_
            first
              | (exfalso; omega)
              | (rw [show (i : Int) + 1 = ((i + 1 : Nat) : Int) by omega, show (j : Int) + 1 = ((j + 1 : Nat) : Int) by omega]
                 refine ih (i + 1) (j + 1) _ _ (by omega) (by omega) (by omega) (fun k q hk => by rw [fm_up_ne hk]; exact hr k q hk) (fun k hk => ?_)
                 have e := hp k hk
                 rw [lpa_1 (by omega) (by omega) (by omega)] at e
                 rw [Int.toNat_natCast, lup_up]
                 exact e)
              | (rw [show (j : Int) + 1 = ((j + 1 : Nat) : Int) by omega]
                 refine ih i (j + 1) _ _ (by omega) (by omega) (by omega) hr (fun k hk => ?_)
                 have e := hp k hk
                 rw [lpa_2 (by omega) (by omega) (by omega) (by omega)] at e
                 exact e)
              | (rw [show (i : Int) + 1 = ((i + 1 : Nat) : Int) by omega]
                 refine ih (i + 1) j _ _ (by omega) (by omega) (by omega) (fun k q hk => by rw [fm_up_ne hk]; exact hr k q hk) (fun k hk => ?_)
                 have e := hp k hk
                 rw [lpa_3 (by omega) (by omega) (by omega)] at e
                 rw [Int.toNat_natCast, lup_up]
                 exact e)
          · refine fm_ild7 dX9_lines_325 ?_
            refine fm_ald0 dX9_lines_327 ?_
            refine gr_8_19 dX9_lines_328 fd_X9_55 ?_
            refine fm_bipush (by decide) dX9_lines_331 ?_
            refine fm_ild6 dX9_lines_333 ?_
            refine fm_imul dX9_lines_335 ?_
            refine fm_ild5 dX9_lines_336 ?_
            refine fm_iadd dX9_lines_338 ?_
            refine fm_iconst dX9_lines_339 ?_
            refine fm_iadd dX9_lines_340 ?_
            refine fm_iald dX9_lines_341 ma_16 (by omega) (by omega) ?_
            rw [rL (by omega)]
            refine fm_iconst dX9_lines_342 ?_
            refine fm_iadd dX9_lines_343 ?_
            refine fm_icmp_ne (⟨by omega, by omega⟩) (⟨by omega, by omega⟩) 353 dX9_lines_344 (by decide) (fun h344 => ?_) (fun h344 => ?_)
            · refine fm_ald0 dX9_lines_353 ?_
              refine gr_8_20 dX9_lines_354 fd_X9_58 ?_
              refine fm_ild6 dX9_lines_357 ?_
              refine fm_bipush (by decide) dX9_lines_359 ?_
              refine fm_iast dX9_lines_361 ma_17 (by omega) (by omega) ?_
              refine fm_inc6 rfl dX9_lines_362 ?_
              refine fm_goto 238 dX9_lines_365 (by decide) ?_
              first
                | (exfalso; omega)
                | (rw [show (i : Int) + 1 = ((i + 1 : Nat) : Int) by omega, show (j : Int) + 1 = ((j + 1 : Nat) : Int) by omega]
                   refine ih (i + 1) (j + 1) _ _ (by omega) (by omega) (by omega) (fun k q hk => by rw [fm_up_ne hk]; exact hr k q hk) (fun k hk => ?_)
                   have e := hp k hk
                   rw [lpa_1 (by omega) (by omega) (by omega)] at e
                   rw [Int.toNat_natCast, lup_up]
                   exact e)
                | (rw [show (j : Int) + 1 = ((j + 1 : Nat) : Int) by omega]
                   refine ih i (j + 1) _ _ (by omega) (by omega) (by omega) hr (fun k hk => ?_)
                   have e := hp k hk
                   rw [lpa_2 (by omega) (by omega) (by omega) (by omega)] at e
                   exact e)
                | (rw [show (i : Int) + 1 = ((i + 1 : Nat) : Int) by omega]
                   refine ih (i + 1) j _ _ (by omega) (by omega) (by omega) (fun k q hk => by rw [fm_up_ne hk]; exact hr k q hk) (fun k hk => ?_)
                   have e := hp k hk
                   rw [lpa_3 (by omega) (by omega) (by omega)] at e
                   rw [Int.toNat_natCast, lup_up]
                   exact e)
            · refine fm_inc5 rfl dX9_lines_347 ?_
              refine fm_goto 365 dX9_lines_350 (by decide) ?_
              refine fm_goto 238 dX9_lines_365 (by decide) ?_
              first
                | (exfalso; omega)
                | (rw [show (i : Int) + 1 = ((i + 1 : Nat) : Int) by omega, show (j : Int) + 1 = ((j + 1 : Nat) : Int) by omega]
                   refine ih (i + 1) (j + 1) _ _ (by omega) (by omega) (by omega) (fun k q hk => by rw [fm_up_ne hk]; exact hr k q hk) (fun k hk => ?_)
                   have e := hp k hk
                   rw [lpa_1 (by omega) (by omega) (by omega)] at e
                   rw [Int.toNat_natCast, lup_up]
                   exact e)
                | (rw [show (j : Int) + 1 = ((j + 1 : Nat) : Int) by omega]
                   refine ih i (j + 1) _ _ (by omega) (by omega) (by omega) hr (fun k hk => ?_)
                   have e := hp k hk
                   rw [lpa_2 (by omega) (by omega) (by omega) (by omega)] at e
                   exact e)
                | (rw [show (i : Int) + 1 = ((i + 1 : Nat) : Int) by omega]
                   refine ih (i + 1) j _ _ (by omega) (by omega) (by omega) (fun k q hk => by rw [fm_up_ne hk]; exact hr k q hk) (fun k hk => ?_)
                   have e := hp k hk
                   rw [lpa_3 (by omega) (by omega) (by omega)] at e
                   rw [Int.toNat_natCast, lup_up]
                   exact e)
        · refine fm_ald0 dX9_lines_300 ?_
          refine gr_8_20 dX9_lines_301 fd_X9_58 ?_
          refine fm_ild6 dX9_lines_304 ?_
          refine fm_ild5 dX9_lines_306 ?_
          refine fm_iast dX9_lines_308 ma_17 (by omega) (by omega) ?_
          refine fm_inc6 rfl dX9_lines_309 ?_
          refine fm_inc5 rfl dX9_lines_312 ?_
          refine fm_goto 365 dX9_lines_315 (by decide) ?_
          refine fm_goto 238 dX9_lines_365 (by decide) ?_
          first
            | (exfalso; omega)
            | (rw [show (i : Int) + 1 = ((i + 1 : Nat) : Int) by omega, show (j : Int) + 1 = ((j + 1 : Nat) : Int) by omega]
               refine ih (i + 1) (j + 1) _ _ (by omega) (by omega) (by omega) (fun k q hk => by rw [fm_up_ne hk]; exact hr k q hk) (fun k hk => ?_)
               have e := hp k hk
               rw [lpa_1 (by omega) (by omega) (by omega)] at e
               rw [Int.toNat_natCast, lup_up]
               exact e)
            | (rw [show (j : Int) + 1 = ((j + 1 : Nat) : Int) by omega]
               refine ih i (j + 1) _ _ (by omega) (by omega) (by omega) hr (fun k hk => ?_)
               have e := hp k hk
               rw [lpa_2 (by omega) (by omega) (by omega) (by omega)] at e
               exact e)
            | (rw [show (i : Int) + 1 = ((i + 1 : Nat) : Int) by omega]
               refine ih (i + 1) j _ _ (by omega) (by omega) (by omega) (fun k q hk => by rw [fm_up_ne hk]; exact hr k q hk) (fun k hk => ?_)
               have e := hp k hk
               rw [lpa_3 (by omega) (by omega) (by omega)] at e
               rw [Int.toNat_natCast, lup_up]
               exact e)
set_option maxRecDepth 20000 in
set_option maxHeartbeats 4000000 in
theorem k_X9_lines {ω : fm_O} {σ : fm_Mem} {x y : Int} (hf : fi σ) (hx : 0 ≤ x ∧ x ≤ 6) (hy : 0 ≤ y ∧ y ≤ 6) : fm_Met km ω yX9_lines cX9_lines 8 none (fm_rm 1) [fm_r ω 0, fm_I x, fm_I y] σ (fm_pN fun σ' => fr1 σ σ' ∧ (∀ a b : Nat, a ≤ (σ 1 x.toNat).toNat → b ≤ (σ 1 y.toNat).toNat → σ' 16 (41 * a + b) = lct (lf σ x) (lf σ y) (σ 1 x.toNat).toNat (σ 1 y.toNat).toNat a b) ∧ ∀ k, k < (σ 1 x.toNat).toNat → σ' 17 k = lpt (lf σ x) (lf σ y) (σ 1 x.toNat).toNat (σ 1 y.toNat).toNat k) := by
  refine fm_start (by decide) rfl (Nat.le_of_ble_eq_true rfl) [some (fm_r ω 0), some (fm_I x), some (fm_I y), none, none, none, none, none] rfl (fun Γ => ?_)
  have b1 := hf.2.1 x.toNat (by omega)
  have b2 := hf.2.1 y.toNat (by omega)
  obtain ⟨N, eN⟩ : ∃ N : Nat, N = (σ 1 x.toNat).toNat := ⟨_, rfl⟩
  obtain ⟨M, eM⟩ : ∃ N : Nat, N = (σ 1 y.toNat).toNat := ⟨_, rfl⟩
  rw [← eN, ← eM]
  have hN : σ 1 x.toNat = N := by omega
  have hM : σ 1 y.toNat = M := by omega
  refine fm_ald0 dX9_lines_0 ?_
  refine gr_8_1 dX9_lines_1 fd_X9_7 ?_
  refine fm_ild1 dX9_lines_4 ?_
  refine fm_iald dX9_lines_5 ma_1 (by omega) (by omega) ?_
  rw [hN]
  refine fm_ist3 rfl dX9_lines_6 ?_
  refine fm_ald0 dX9_lines_7 ?_
  refine gr_8_1 dX9_lines_8 fd_X9_7 ?_
  refine fm_ild2 dX9_lines_11 ?_
  refine fm_iald dX9_lines_12 ma_1 (by omega) (by omega) ?_
  rw [hM]
  refine fm_ist4 rfl dX9_lines_13 ?_
  refine fm_ild3 dX9_lines_15 ?_
  refine fm_ist5 rfl dX9_lines_16 ?_
  refine l_lines_out hf hx hy N M (by omega) (by omega) (fun τ o5 o6 o7 hr ht => ?_) (N + 1) (N : Int) σ _ _ (by omega) (by omega) fr1.rfl (fun a b ha hb hab => by omega)
  refine fm_iconst dX9_lines_232 ?_
  refine fm_ist5 rfl dX9_lines_233 ?_
  refine fm_iconst dX9_lines_235 ?_
  refine fm_ist6 rfl dX9_lines_236 ?_
  exact l_lines_tr hf hx hy N M (by omega) (by omega) hr (fun a b ha hb => ht a b ha hb (by omega)) (N + M) 0 0 τ _ (by omega) (by omega) (by omega) (fun _ _ _ => rfl) (fun k hk => lpt_of hk)
