set_option maxRecDepth 20000 in
set_option maxHeartbeats 4000000 in
theorem k_X9_whole {ω : fm_O} {σ : fm_Mem} (hi : fj σ) {i : Int} (ri : fm_R i) : fm_Met km ω yX9_whole cX9_whole 3 (some .int) (fm_rm 4) [fm_r ω 0, fm_I i] σ (fm_pI fun z σ' => z = sp_whole σ i ∧ sam σ σ') := by
  refine fm_start (by decide) rfl (Nat.le_of_ble_eq_true rfl) [some (fm_r ω 0), some (fm_I i), none] rfl (fun Γ => ?_)
  have hf := hi.fi
  have b0 := hf.1
  have b6 := hf.2.1 6 (by omega)
  have s1 := (srcs_ok hf i.toNat).1
  refine fm_ild1 dX9_whole_0 ?_
  refine fm_iconst dX9_whole_1 ?_
  refine fm_ald0 dX9_whole_2 ?_
  refine gr_8_1 dX9_whole_3 fd_X9_7 ?_
  refine fm_bipush (by decide) dX9_whole_6 ?_
  refine fm_iald dX9_whole_8 ma_1 (by omega) (by omega) ?_
  rw [show (6 : Int).toNat = 6 from rfl]
  refine fm_iconst dX9_whole_9 ?_
  refine fm_isub dX9_whole_10 ?_
  refine fm_csI dX9_whole_11 cl_X9_77 (k_X9_in ⟨by omega, by omega⟩ ⟨by omega, by omega⟩ ⟨by omega, by omega⟩) rfl rfl (by decide) rfl rfl (Nat.le_of_ble_eq_true rfl) (fun z11 s11 q11 => ?_)
  obtain ⟨q11, rfl⟩ := q11
  refine fm_if_ne (⟨by omega, by omega⟩) 19 dX9_whole_14 (by decide) (fun h14 => ?_) (fun h14 => ?_)
  · refine fm_ald0 dX9_whole_19 ?_
    refine fm_cvI dX9_whole_20 cl_X9_136 (k_X9_wholes hi) mb_0 rfl rfl (by decide) rfl rfl (Nat.le_of_ble_eq_true rfl) (fun z20 s20 q20 => ?_)
    refine fm_ist2 rfl dX9_whole_23 ?_
    refine fm_ild1 dX9_whole_24 ?_
    refine fm_if_ge (⟨by omega, by omega⟩) 32 dX9_whole_25 (by decide) (fun h25 => ?_) (fun h25 => ?_)
    · refine fm_ald0 dX9_whole_32 ?_
      refine gr_8_23 dX9_whole_33 fd_X9_67 ?_
      refine fm_ild1 dX9_whole_36 ?_
      refine fm_iald dX9_whole_37 ma_20 (by omega) (by omega) ?_
      rw [q20.2.2 i.toNat (by omega)]
      refine fm_bipush (by decide) dX9_whole_38 ?_
      refine fm_icmp_ne (⟨by omega, by omega⟩) (⟨by omega, by omega⟩) 48 dX9_whole_40 (by decide) (fun h40 => ?_) (fun h40 => ?_)
      · refine fm_ald0 dX9_whole_48 ?_
        refine gr_8_23 dX9_whole_49 fd_X9_67 ?_
        refine fm_ild1 dX9_whole_52 ?_
        refine fm_iald dX9_whole_53 ma_20 (by omega) (by omega) ?_
        try rw [q20.2.2 i.toNat (by omega)]
        refine fm_iretI dX9_whole_54 rfl ?_
        unfold sp_whole
        first
          | (rw [if_pos (by omega)]; exact ⟨by omega, sam.rfl⟩)
          | (rw [if_neg (by omega), if_pos (by omega)]; exact ⟨q20.1, q20.2.1.1⟩)
          | (rw [if_neg (by omega), if_neg (by omega), if_pos (by omega)]; exact ⟨rfl, q20.2.1.1⟩)
          | (rw [if_neg (by omega), if_neg (by omega), if_neg (by omega)]; exact ⟨rfl, q20.2.1.1⟩)
      · refine fm_bipush (by decide) dX9_whole_43 ?_
        refine fm_goto 54 dX9_whole_45 (by decide) ?_
        refine fm_iretI dX9_whole_54 rfl ?_
        unfold sp_whole
        first
          | (rw [if_pos (by omega)]; exact ⟨by omega, sam.rfl⟩)
          | (rw [if_neg (by omega), if_pos (by omega)]; exact ⟨q20.1, q20.2.1.1⟩)
          | (rw [if_neg (by omega), if_neg (by omega), if_pos (by omega)]; exact ⟨rfl, q20.2.1.1⟩)
          | (rw [if_neg (by omega), if_neg (by omega), if_neg (by omega)]; exact ⟨rfl, q20.2.1.1⟩)
    · refine fm_ild2 dX9_whole_28 ?_
      refine fm_goto 54 dX9_whole_29 (by decide) ?_
      refine fm_iretI dX9_whole_54 rfl ?_
      unfold sp_whole
      first
        | (rw [if_pos (by omega)]; exact ⟨by omega, sam.rfl⟩)
        | (rw [if_neg (by omega), if_pos (by omega)]; exact ⟨q20.1, q20.2.1.1⟩)
        | (rw [if_neg (by omega), if_neg (by omega), if_pos (by omega)]; exact ⟨rfl, q20.2.1.1⟩)
        | (rw [if_neg (by omega), if_neg (by omega), if_neg (by omega)]; exact ⟨rfl, q20.2.1.1⟩)
  · refine fm_iconst dX9_whole_17 ?_
    refine fm_iretI dX9_whole_18 rfl ?_
    unfold sp_whole
    first
      | (rw [if_pos (by omega)]; exact ⟨by omega, sam.rfl⟩)
      | (rw [if_neg (by omega), if_pos (by omega)]; exact ⟨q20.1, q20.2.1.1⟩)
      | (rw [if_neg (by omega), if_neg (by omega), if_pos (by omega)]; exact ⟨rfl, q20.2.1.1⟩)
      | (rw [if_neg (by omega), if_neg (by omega), if_neg (by omega)]; exact ⟨rfl, q20.2.1.1⟩)
set_option maxRecDepth 20000 in
set_option maxHeartbeats 4000000 in
theorem l_mabout {ω : fm_O} {τ : fm_Mem} {Γ : fm_G} {μ : fm_Mem} (hi : fj μ) (g : sgm μ τ) (hq : ∀ q : Nat, (q : Int) < μ 1 6 → τ 20 q = srcs μ q) {t : Int} (ht : 0 ≤ t ∧ t ≤ 2) : ∀ (d : Nat) (p b : Int) (o4 : Option Value), 0 ≤ p → p + d = μ 1 6 → b = acn μ t p.toNat → fm_W km ω Γ (cX9_about, RX9, fm_rm 4, 5, (some .int)) (fm_pI fun z σ' => z = acn μ t (μ 1 6).toNat ∧ sam μ σ') τ 20 [some (fm_r ω 0), some (fm_I t), some (fm_I b), some (fm_I p), o4] [] := by
  have hf := hi.fi
  have b6 := hf.2.1 6 (by omega)
  have m : ∀ k j, k < 16 → τ k j = μ k j := g.1
  intro d
  induction d with
  | zero =>
    intro p b o4 h0 hp hb
    refine fm_ild3 dX9_about_20 ?_
    refine fm_ald0 dX9_about_21 ?_
    refine gr_8_1 dX9_about_22 fd_X9_7 ?_
    refine fm_bipush (by decide) dX9_about_25 ?_
    refine fm_iald dX9_about_27 ma_1 (by omega) (by omega) ?_
    rw [show (6 : Int).toNat = 6 from rfl, m 1 6 (by omega)]
    refine fm_icmp_ge (⟨by omega, by omega⟩) (⟨by omega, by omega⟩) 182 dX9_about_28 (by decide) (fun h28 => ?_) (fun h28 => ?_)
    · refine fm_ild2 dX9_about_182 ?_
      exact fm_iretI dX9_about_183 rfl ⟨by rw [hb, show p = μ 1 6 by omega], g.1⟩
    · exfalso; omega
  | succ d ih =>
    intro p b o4 h0 hp hb
    have e1 : (p + 1).toNat = p.toNat + 1 := by omega
    have em : (p - 1).toNat = p.toNat - 1 := by omega
    obtain ⟨s1, s2⟩ := srcs_ok hf p.toNat
    obtain ⟨t1, t2⟩ := srcs_ok hf (p.toNat - 1)
    have ec := hq p.toNat (by omega)
    have ed : 0 < p → τ 20 (p.toNat - 1) = srcs μ (p.toNat - 1) := fun q => hq (p.toNat - 1) (by omega)
    have y1 := hf.2.2.2.2.2.2.1 p.toNat
    have y2 := hf.2.2.2.2.2.2.1 (p.toNat - 1)
    have ab := acn_b μ t p.toNat
    have J83 : ∀ v : Int, (jd μ p.toNat → v = 1) → (¬ jd μ p.toNat → v = 0) → fm_W km ω Γ (cX9_about, RX9, fm_rm 4, 5, (some .int)) (fm_pI fun z σ' => z = acn μ t (μ 1 6).toNat ∧ sam μ σ') τ 83 [some (fm_r ω 0), some (fm_I t), some (fm_I b), some (fm_I p), some (fm_I v)] [] := by
      intro v hv hv2
      have hv3 : v = 0 ∨ v = 1 := by
        by_cases q : jd μ p.toNat
        · right; exact hv q
        · left; exact hv2 q
      refine fm_ild1 dX9_about_83 ?_
      refine fm_if_ne (⟨by omega, by omega⟩) 109 dX9_about_84 (by decide) (fun h84 => ?_) (fun h84 => ?_)
      · refine fm_ild4 dX9_about_109 ?_
        refine fm_if_eq (⟨by omega, by omega⟩) 176 dX9_about_111 (by decide) (fun h111 => ?_) (fun h111 => ?_)
        · refine fm_inc3 rfl dX9_about_176 ?_
          refine fm_goto 20 dX9_about_179 (by decide) ?_
          refine ih (p + 1) _ _ (by omega) (by omega) ?_
          rw [e1, acn]
          first
            | (rw [if_pos (by omega)]; omega)
            | (rw [if_neg (by omega)]; omega)
        · refine fm_ild2 dX9_about_114 ?_
          refine fm_ild1 dX9_about_115 ?_
          refine fm_iconst dX9_about_116 ?_
          refine fm_icmp_ne (⟨by omega, by omega⟩) (⟨by omega, by omega⟩) 140 dX9_about_117 (by decide) (fun h117 => ?_) (fun h117 => ?_)
          · refine fm_ald0 dX9_about_140 ?_
            refine fm_ald0 dX9_about_141 ?_
            refine gr_8_23 dX9_about_142 fd_X9_67 ?_
            refine fm_ild3 dX9_about_145 ?_
            refine fm_iald dX9_about_146 ma_20 (by omega) (by omega) ?_
            rw [ec]
            refine fm_ild3 dX9_about_147 ?_
            refine fm_cvI dX9_about_148 cl_X9_115 (k_X9_view hi g (by omega) (by omega) (by rw [Int.toNat_natCast]; omega)) mb_0 rfl rfl (by decide) rfl rfl (Nat.le_of_ble_eq_true rfl) (fun z148 s148 q148 => ?_)
            obtain ⟨rfl, rfl⟩ := q148
            rw [Int.toNat_natCast]
            have c1 := hf.2.2.2.2.2.1 (40 * srcs μ (p.toNat) + (std μ (srcs μ (p.toNat)) (p.toNat)).toNat)
            change 0 ≤ cmr μ (p.toNat) (srcs μ (p.toNat)) ∧ cmr μ (p.toNat) (srcs μ (p.toNat)) ≤ 1 at c1
            refine fm_ald0 dX9_about_151 ?_
            refine fm_ald0 dX9_about_152 ?_
            refine gr_8_23 dX9_about_153 fd_X9_67 ?_
            refine fm_ild3 dX9_about_156 ?_
            refine fm_iconst dX9_about_157 ?_
            refine fm_isub dX9_about_158 ?_
            refine fm_iald dX9_about_159 ma_20 (by omega) (by omega) ?_
            rw [em, ed (by omega)]
            refine fm_ild3 dX9_about_160 ?_
            refine fm_iconst dX9_about_161 ?_
            refine fm_isub dX9_about_162 ?_
            refine fm_cvI dX9_about_163 cl_X9_115 (k_X9_view hi g (p := p - 1) (by omega) (by omega) (by rw [Int.toNat_natCast, em]; omega)) mb_0 rfl rfl (by decide) rfl rfl (Nat.le_of_ble_eq_true rfl) (fun z163 s163 q163 => ?_)
            obtain ⟨rfl, rfl⟩ := q163
            rw [Int.toNat_natCast, em]
            have c2 := hf.2.2.2.2.2.1 (40 * srcs μ (p.toNat - 1) + (std μ (srcs μ (p.toNat - 1)) (p.toNat - 1)).toNat)
            change 0 ≤ cmr μ (p.toNat - 1) (srcs μ (p.toNat - 1)) ∧ cmr μ (p.toNat - 1) (srcs μ (p.toNat - 1)) ≤ 1 at c2
            refine fm_icmp_eq (⟨by omega, by omega⟩) (⟨by omega, by omega⟩) 173 dX9_about_166 (by decide) (fun h166 => ?_) (fun h166 => ?_)
            · refine fm_iconst dX9_about_173 ?_
              refine fm_iadd dX9_about_174 ?_
              refine fm_ist2 rfl dX9_about_175 ?_
              refine fm_inc3 rfl dX9_about_176 ?_
              refine fm_goto 20 dX9_about_179 (by decide) ?_
              refine ih (p + 1) _ _ (by omega) (by omega) ?_
              rw [e1, acn]
              first
                | (rw [if_pos (by omega)]; omega)
                | (rw [if_neg (by omega)]; omega)
            · refine fm_iconst dX9_about_169 ?_
              refine fm_goto 174 dX9_about_170 (by decide) ?_
              refine fm_iadd dX9_about_174 ?_
              refine fm_ist2 rfl dX9_about_175 ?_
              refine fm_inc3 rfl dX9_about_176 ?_
              refine fm_goto 20 dX9_about_179 (by decide) ?_
              refine ih (p + 1) _ _ (by omega) (by omega) ?_
              rw [e1, acn]
              first
                | (rw [if_pos (by omega)]; omega)
                | (rw [if_neg (by omega)]; omega)
          · refine fm_ald0 dX9_about_120 ?_
            refine gr_8_23 dX9_about_121 fd_X9_67 ?_
            refine fm_ild3 dX9_about_124 ?_
            refine fm_iald dX9_about_125 ma_20 (by omega) (by omega) ?_
            rw [ec]
            refine fm_ald0 dX9_about_126 ?_
            refine gr_8_23 dX9_about_127 fd_X9_67 ?_
            refine fm_ild3 dX9_about_130 ?_
            refine fm_iconst dX9_about_131 ?_
            refine fm_isub dX9_about_132 ?_
            refine fm_iald dX9_about_133 ma_20 (by omega) (by omega) ?_
            rw [em, ed (by omega)]
            refine fm_icmp_eq (⟨by omega, by omega⟩) (⟨by omega, by omega⟩) 173 dX9_about_134 (by decide) (fun h134 => ?_) (fun h134 => ?_)
            · refine fm_iconst dX9_about_173 ?_
              refine fm_iadd dX9_about_174 ?_
              refine fm_ist2 rfl dX9_about_175 ?_
              refine fm_inc3 rfl dX9_about_176 ?_
              refine fm_goto 20 dX9_about_179 (by decide) ?_
              refine ih (p + 1) _ _ (by omega) (by omega) ?_
              rw [e1, acn]
              first
                | (rw [if_pos (by omega)]; omega)
                | (rw [if_neg (by omega)]; omega)
            · refine fm_goto 169 dX9_about_137 (by decide) ?_
              refine fm_iconst dX9_about_169 ?_
              refine fm_goto 174 dX9_about_170 (by decide) ?_
              refine fm_iadd dX9_about_174 ?_
              refine fm_ist2 rfl dX9_about_175 ?_
              refine fm_inc3 rfl dX9_about_176 ?_
              refine fm_goto 20 dX9_about_179 (by decide) ?_
              refine ih (p + 1) _ _ (by omega) (by omega) ?_
              rw [e1, acn]
              first
                | (rw [if_pos (by omega)]; omega)
                | (rw [if_neg (by omega)]; omega)
      · refine fm_ild2 dX9_about_87 ?_
        refine fm_ald0 dX9_about_88 ?_
        refine gr_8_23 dX9_about_89 fd_X9_67 ?_
        refine fm_ild3 dX9_about_92 ?_
        refine fm_iald dX9_about_93 ma_20 (by omega) (by omega) ?_
        rw [ec]
        refine fm_bipush (by decide) dX9_about_94 ?_
        refine fm_icmp_ne (⟨by omega, by omega⟩) (⟨by omega, by omega⟩) 103 dX9_about_96 (by decide) (fun h96 => ?_) (fun h96 => ?_)
        · refine fm_iconst dX9_about_103 ?_
          refine fm_iadd dX9_about_104 ?_
          refine fm_ist2 rfl dX9_about_105 ?_
          refine fm_goto 176 dX9_about_106 (by decide) ?_
          refine fm_inc3 rfl dX9_about_176 ?_
          refine fm_goto 20 dX9_about_179 (by decide) ?_
          refine ih (p + 1) _ _ (by omega) (by omega) ?_
          rw [e1, acn]
          first
            | (rw [if_pos (by omega)]; omega)
            | (rw [if_neg (by omega)]; omega)
        · refine fm_iconst dX9_about_99 ?_
          refine fm_goto 104 dX9_about_100 (by decide) ?_
          refine fm_iadd dX9_about_104 ?_
          refine fm_ist2 rfl dX9_about_105 ?_
          refine fm_goto 176 dX9_about_106 (by decide) ?_
          refine fm_inc3 rfl dX9_about_176 ?_
          refine fm_goto 20 dX9_about_179 (by decide) ?_
          refine ih (p + 1) _ _ (by omega) (by omega) ?_
          rw [e1, acn]
          first
            | (rw [if_pos (by omega)]; omega)
            | (rw [if_neg (by omega)]; omega)
    refine fm_ild3 dX9_about_20 ?_
    refine fm_ald0 dX9_about_21 ?_
    refine gr_8_1 dX9_about_22 fd_X9_7 ?_
    refine fm_bipush (by decide) dX9_about_25 ?_
    refine fm_iald dX9_about_27 ma_1 (by omega) (by omega) ?_
    rw [show (6 : Int).toNat = 6 from rfl, m 1 6 (by omega)]
    refine fm_icmp_ge (⟨by omega, by omega⟩) (⟨by omega, by omega⟩) 182 dX9_about_28 (by decide) (fun h28 => ?_) (fun h28 => ?_)
    · exfalso; omega
    · refine fm_ild3 dX9_about_31 ?_
      refine fm_if_le (⟨by omega, by omega⟩) 80 dX9_about_32 (by decide) (fun h32 => ?_) (fun h32 => ?_)
      · refine fm_iconst dX9_about_80 ?_
        refine fm_ist4 rfl dX9_about_81 ?_
        exact J83 _ (by omega) (by omega)
      · refine fm_ald0 dX9_about_35 ?_
        refine gr_8_5 dX9_about_36 fd_X9_22 ?_
        refine fm_ild3 dX9_about_39 ?_
        refine fm_iald dX9_about_40 ma_5 (by omega) (by omega) ?_
        rw [m 5 _ (by omega)]
        refine fm_ald0 dX9_about_41 ?_
        refine gr_8_5 dX9_about_42 fd_X9_22 ?_
        refine fm_ild3 dX9_about_45 ?_
        refine fm_iconst dX9_about_46 ?_
        refine fm_isub dX9_about_47 ?_
        refine fm_iald dX9_about_48 ma_5 (by omega) (by omega) ?_
        rw [em, m 5 _ (by omega)]
        refine fm_icmp_ne (⟨by omega, by omega⟩) (⟨by omega, by omega⟩) 80 dX9_about_49 (by decide) (fun h49 => ?_) (fun h49 => ?_)
        · refine fm_iconst dX9_about_80 ?_
          refine fm_ist4 rfl dX9_about_81 ?_
          exact J83 _ (by omega) (by omega)
        · refine fm_ald0 dX9_about_52 ?_
          refine gr_8_23 dX9_about_53 fd_X9_67 ?_
          refine fm_ild3 dX9_about_56 ?_
          refine fm_iald dX9_about_57 ma_20 (by omega) (by omega) ?_
          rw [ec]
          refine fm_bipush (by decide) dX9_about_58 ?_
          refine fm_icmp_eq (⟨by omega, by omega⟩) (⟨by omega, by omega⟩) 80 dX9_about_60 (by decide) (fun h60 => ?_) (fun h60 => ?_)
          · refine fm_iconst dX9_about_80 ?_
            refine fm_ist4 rfl dX9_about_81 ?_
            exact J83 _ (by omega) (by omega)
          · refine fm_ald0 dX9_about_63 ?_
            refine gr_8_23 dX9_about_64 fd_X9_67 ?_
            refine fm_ild3 dX9_about_67 ?_
            refine fm_iconst dX9_about_68 ?_
            refine fm_isub dX9_about_69 ?_
            refine fm_iald dX9_about_70 ma_20 (by omega) (by omega) ?_
            rw [em, ed (by omega)]
            refine fm_bipush (by decide) dX9_about_71 ?_
            refine fm_icmp_eq (⟨by omega, by omega⟩) (⟨by omega, by omega⟩) 80 dX9_about_73 (by decide) (fun h73 => ?_) (fun h73 => ?_)
            · refine fm_iconst dX9_about_80 ?_
              refine fm_ist4 rfl dX9_about_81 ?_
              exact J83 _ (by omega) (by omega)
            · refine fm_iconst dX9_about_76 ?_
              refine fm_goto 81 dX9_about_77 (by decide) ?_
              refine fm_ist4 rfl dX9_about_81 ?_
              exact J83 _ (by omega) (by omega)
set_option maxRecDepth 20000 in
set_option maxHeartbeats 4000000 in
theorem k_X9_about {ω : fm_O} {σ : fm_Mem} (hi : fj σ) {t : Int} (rt : fm_R t) : fm_Met km ω yX9_about cX9_about 5 (some .int) (fm_rm 4) [fm_r ω 0, fm_I t] σ (fm_pI fun z σ' => z = sp_about σ t ∧ sam σ σ') := by
  refine fm_start (by decide) rfl (Nat.le_of_ble_eq_true rfl) [some (fm_r ω 0), some (fm_I t), none, none, none] rfl (fun Γ => ?_)
  have hf := hi.fi
  have b0 := hf.1
  have b6 := hf.2.1 6 (by omega)
  refine fm_ild1 dX9_about_0 ?_
  refine fm_iconst dX9_about_1 ?_
  refine fm_iconst dX9_about_2 ?_
  refine fm_csI dX9_about_3 cl_X9_77 (k_X9_in ⟨by omega, by omega⟩ ⟨by omega, by omega⟩ ⟨by omega, by omega⟩) rfl rfl (by decide) rfl rfl (Nat.le_of_ble_eq_true rfl) (fun z3 s3 q3 => ?_)
  obtain ⟨q3, rfl⟩ := q3
  refine fm_if_ne (⟨by omega, by omega⟩) 11 dX9_about_6 (by decide) (fun h6 => ?_) (fun h6 => ?_)
  · refine fm_ald0 dX9_about_11 ?_
    refine fm_cvI dX9_about_12 cl_X9_136 (k_X9_wholes hi) mb_0 rfl rfl (by decide) rfl rfl (Nat.le_of_ble_eq_true rfl) (fun z12 s12 q12 => ?_)
    refine fm_pop dX9_about_15 ?_
    refine fm_iconst dX9_about_16 ?_
    refine fm_ist2 rfl dX9_about_17 ?_
    refine fm_iconst dX9_about_18 ?_
    refine fm_ist3 rfl dX9_about_19 ?_
    have hl := l_mabout (ω := ω) (Γ := Γ) hi q12.2.1 q12.2.2 (t := t) (by omega) (σ 1 6).toNat 0 0 none (by omega) (by omega) rfl
    unfold sp_about
    rw [if_neg (by omega)]
    exact hl
  · refine fm_iconst dX9_about_9 ?_
    refine fm_iretI dX9_about_10 rfl ?_
    unfold sp_about
    rw [if_pos (by omega)]
    exact ⟨rfl, sam.rfl⟩
theorem sam_kp {μ τ : fm_Mem} (h : sam μ τ) (hb : τ 0 16 = μ 0 16) {q v : Int} : sam (kp μ q v) (kp τ q v) := by
  have z : ∀ k j, k < 16 → τ k j = μ k j := h
  have hd : ∀ k j, k < 16 → kdrop τ k j = kdrop μ k j := by
    intro k j hk
    unfold kdrop
    rw [hb]
    by_cases e : μ 0 16 = 30
    · rw [if_pos e, if_pos e]
      try simp only
      rw [z k (j + 1) hk, z k j hk]
    · rw [if_neg e, if_neg e]
      exact z k j hk
  intro k j hk
  unfold kp
  rw [hd 0 16 (by omega), z 3 _ (by omega)]
  refine fm_up_rel Iff.rfl rfl (fm_up_rel Iff.rfl rfl (fm_up_rel Iff.rfl rfl (fm_up_rel Iff.rfl rfl (hd k j hk))))
set_option maxRecDepth 20000 in
set_option maxHeartbeats 4000000 in
theorem k_X9_mend {ω : fm_O} {σ : fm_Mem} (hi : fj σ) {p : Int} (rp : fm_R p) : fm_Met km ω yX9_mend cX9_mend 6 (some .int) (fm_rm 4) [fm_r ω 0, fm_I p] σ (fm_pI fun z σ' => z = (sp_mend σ p).1 ∧ sam (sp_mend σ p).2 σ') := by
  refine fm_start (by decide) rfl (Nat.le_of_ble_eq_true rfl) [some (fm_r ω 0), some (fm_I p), none, none, none, none] rfl (fun Γ => ?_)
  have hf := hi.fi
  have b0 := hf.1
  have b6 := hf.2.1 6 (by omega)
  refine fm_ald0 dX9_mend_0 ?_
  refine fm_ild1 dX9_mend_1 ?_
  refine fm_cvI dX9_mend_2 cl_X9_109 (k_X9_isPlace ⟨by omega, by omega⟩ hf) mb_0 rfl rfl (by decide) rfl rfl (Nat.le_of_ble_eq_true rfl) (fun z2 s2 q2 => ?_)
  obtain ⟨q2, rfl⟩ := q2
  refine fm_if_ne (⟨by omega, by omega⟩) 10 dX9_mend_5 (by decide) (fun h5 => ?_) (fun h5 => ?_)
  · refine fm_ald0 dX9_mend_10 ?_
    refine fm_cvI dX9_mend_11 cl_X9_136 (k_X9_wholes hi) mb_0 rfl rfl (by decide) rfl rfl (Nat.le_of_ble_eq_true rfl) (fun z11 s11 q11 => ?_)
    obtain ⟨q0, g, hq⟩ := q11
    have m : ∀ k j, k < 16 → s11 k j = σ k j := g.1
    obtain ⟨s1, s2⟩ := srcs_ok hf p.toNat
    obtain ⟨t1, t2⟩ := srcs_ok hf (p.toNat - 1)
    obtain ⟨u1, u2⟩ := srcs_ok hf (p.toNat + 1)
    have ec := hq p.toNat (by omega)
    have em : 0 < p → (p - 1).toNat = p.toNat - 1 := fun q => by omega
    have ep : (p + 1).toNat = p.toNat + 1 := by omega
    have ed : 0 < p → s11 20 (p.toNat - 1) = srcs σ (p.toNat - 1) := fun q => hq (p.toNat - 1) (by omega)
    have eg : p + 1 < σ 1 6 → s11 20 (p.toNat + 1) = srcs σ (p.toNat + 1) := fun q => hq (p.toNat + 1) (by omega)
    have y1 := hf.2.2.2.2.2.2.1 p.toNat
    have y2 := hf.2.2.2.2.2.2.1 (p.toNat - 1)
    have y3 := hf.2.2.2.2.2.2.1 (p.toNat + 1)
    have w1 := wn_b hf (p.toNat - 1) (srcs σ p.toNat)
    have w2 := wn_b hf (p.toNat + 1) (srcs σ p.toNat)
    have w3 := wn_b hf p.toNat (srcs σ p.toNat)
    have sb := std_b (μ := σ) (c := srcs σ p.toNat) (p := p.toNat) (by omega)
    have cs : srcs σ p.toNat < 6 → 0 ≤ σ 1 (srcs σ p.toNat) ∧ σ 1 (srcs σ p.toNat) ≤ 40 := fun q => hf.2.1 _ (by omega)
    have b16 := hf.2.2.2.2.2.2.2.2.2.2.2.2.2.1
    have m16 := m 0 16 (by omega)
    have es : srcs σ p.toNat < 6 → 0 ≤ std σ (srcs σ p.toNat) p.toNat → s11 18 (40 * (srcs σ p.toNat : Int) + p).toNat = std σ (srcs σ p.toNat) p.toNat := fun q q2 => by rw [← g.2 (srcs σ p.toNat) p.toNat (std_c hf q (by omega) q2) (by omega)]; congr 1; omega
    refine fm_pop dX9_mend_14 ?_
    refine fm_ald0 dX9_mend_15 ?_
    refine gr_8_23 dX9_mend_16 fd_X9_67 ?_
    refine fm_ild1 dX9_mend_19 ?_
    refine fm_iald dX9_mend_20 ma_20 (by omega) (by omega) ?_
    rw [ec]
    refine fm_ist2 rfl dX9_mend_21 ?_
    refine fm_ild1 dX9_mend_22 ?_
    refine fm_if_eq (⟨by omega, by omega⟩) 103 dX9_mend_23 (by decide) (fun h23 => ?_) (fun h23 => ?_)
    · refine fm_bipush (by decide) dX9_mend_103 ?_
      refine fm_iretI dX9_mend_105 rfl ?_
      unfold sp_mend
      first
        | (rw [if_pos (by omega)]; exact ⟨by omega, sam.rfl⟩)
        | (rw [if_neg (by omega), if_pos (by omega)]; exact ⟨by omega, g.1⟩)
        | (rw [if_neg (by omega), if_neg (by omega)]; exact ⟨rfl, sam_kp g.1 m16⟩)
    · refine fm_ild1 dX9_mend_26 ?_
      refine fm_ald0 dX9_mend_27 ?_
      refine gr_8_1 dX9_mend_28 fd_X9_7 ?_
      refine fm_bipush (by decide) dX9_mend_31 ?_
      refine fm_iald dX9_mend_33 ma_1 (by omega) (by omega) ?_
      rw [show (6 : Int).toNat = 6 from rfl, m 1 6 (by omega)]
      refine fm_iconst dX9_mend_34 ?_
      refine fm_isub dX9_mend_35 ?_
      refine fm_icmp_eq (⟨by omega, by omega⟩) (⟨by omega, by omega⟩) 103 dX9_mend_36 (by decide) (fun h36 => ?_) (fun h36 => ?_)
      · refine fm_bipush (by decide) dX9_mend_103 ?_
        refine fm_iretI dX9_mend_105 rfl ?_
        unfold sp_mend
        first
          | (rw [if_pos (by omega)]; exact ⟨by omega, sam.rfl⟩)
          | (rw [if_neg (by omega), if_pos (by omega)]; exact ⟨by omega, g.1⟩)
          | (rw [if_neg (by omega), if_neg (by omega)]; exact ⟨rfl, sam_kp g.1 m16⟩)
      · refine fm_ild2 dX9_mend_39 ?_
        refine fm_bipush (by decide) dX9_mend_40 ?_
        refine fm_icmp_eq (⟨by omega, by omega⟩) (⟨by omega, by omega⟩) 103 dX9_mend_42 (by decide) (fun h42 => ?_) (fun h42 => ?_)
        · refine fm_bipush (by decide) dX9_mend_103 ?_
          refine fm_iretI dX9_mend_105 rfl ?_
          unfold sp_mend
          first
            | (rw [if_pos (by omega)]; exact ⟨by omega, sam.rfl⟩)
            | (rw [if_neg (by omega), if_pos (by omega)]; exact ⟨by omega, g.1⟩)
            | (rw [if_neg (by omega), if_neg (by omega)]; exact ⟨rfl, sam_kp g.1 m16⟩)
        · refine fm_ald0 dX9_mend_45 ?_
          refine gr_8_23 dX9_mend_46 fd_X9_67 ?_
          refine fm_ild1 dX9_mend_49 ?_
          refine fm_iconst dX9_mend_50 ?_
          refine fm_isub dX9_mend_51 ?_
          refine fm_iald dX9_mend_52 ma_20 (by omega) (by omega) ?_
          rw [em (by omega), ed (by omega)]
          refine fm_ild2 dX9_mend_53 ?_
          refine fm_icmp_ne (⟨by omega, by omega⟩) (⟨by omega, by omega⟩) 103 dX9_mend_54 (by decide) (fun h54 => ?_) (fun h54 => ?_)
          · refine fm_bipush (by decide) dX9_mend_103 ?_
            refine fm_iretI dX9_mend_105 rfl ?_
            unfold sp_mend
            first
              | (rw [if_pos (by omega)]; exact ⟨by omega, sam.rfl⟩)
              | (rw [if_neg (by omega), if_pos (by omega)]; exact ⟨by omega, g.1⟩)
              | (rw [if_neg (by omega), if_neg (by omega)]; exact ⟨rfl, sam_kp g.1 m16⟩)
          · refine fm_ald0 dX9_mend_57 ?_
            refine gr_8_23 dX9_mend_58 fd_X9_67 ?_
            refine fm_ild1 dX9_mend_61 ?_
            refine fm_iconst dX9_mend_62 ?_
            refine fm_iadd dX9_mend_63 ?_
            refine fm_iald dX9_mend_64 ma_20 (by omega) (by omega) ?_
            rw [ep, eg (by omega)]
            refine fm_ild2 dX9_mend_65 ?_
            refine fm_icmp_ne (⟨by omega, by omega⟩) (⟨by omega, by omega⟩) 103 dX9_mend_66 (by decide) (fun h66 => ?_) (fun h66 => ?_)
            · refine fm_bipush (by decide) dX9_mend_103 ?_
              refine fm_iretI dX9_mend_105 rfl ?_
              unfold sp_mend
              first
                | (rw [if_pos (by omega)]; exact ⟨by omega, sam.rfl⟩)
                | (rw [if_neg (by omega), if_pos (by omega)]; exact ⟨by omega, g.1⟩)
                | (rw [if_neg (by omega), if_neg (by omega)]; exact ⟨rfl, sam_kp g.1 m16⟩)
            · refine fm_ald0 dX9_mend_69 ?_
              refine gr_8_5 dX9_mend_70 fd_X9_22 ?_
              refine fm_ild1 dX9_mend_73 ?_
              refine fm_iconst dX9_mend_74 ?_
              refine fm_isub dX9_mend_75 ?_
              refine fm_iald dX9_mend_76 ma_5 (by omega) (by omega) ?_
              rw [em (by omega), m 5 _ (by omega)]
              refine fm_ald0 dX9_mend_77 ?_
              refine gr_8_5 dX9_mend_78 fd_X9_22 ?_
              refine fm_ild1 dX9_mend_81 ?_
              refine fm_iald dX9_mend_82 ma_5 (by omega) (by omega) ?_
              rw [m 5 _ (by omega)]
              refine fm_icmp_ne (⟨by omega, by omega⟩) (⟨by omega, by omega⟩) 103 dX9_mend_83 (by decide) (fun h83 => ?_) (fun h83 => ?_)
              · refine fm_bipush (by decide) dX9_mend_103 ?_
                refine fm_iretI dX9_mend_105 rfl ?_
                unfold sp_mend
                first
                  | (rw [if_pos (by omega)]; exact ⟨by omega, sam.rfl⟩)
                  | (rw [if_neg (by omega), if_pos (by omega)]; exact ⟨by omega, g.1⟩)
                  | (rw [if_neg (by omega), if_neg (by omega)]; exact ⟨rfl, sam_kp g.1 m16⟩)
              · refine fm_ald0 dX9_mend_86 ?_
                refine gr_8_5 dX9_mend_87 fd_X9_22 ?_
                refine fm_ild1 dX9_mend_90 ?_
                refine fm_iconst dX9_mend_91 ?_
                refine fm_iadd dX9_mend_92 ?_
                refine fm_iald dX9_mend_93 ma_5 (by omega) (by omega) ?_
                rw [ep, m 5 _ (by omega)]
                refine fm_ald0 dX9_mend_94 ?_
                refine gr_8_5 dX9_mend_95 fd_X9_22 ?_
                refine fm_ild1 dX9_mend_98 ?_
                refine fm_iald dX9_mend_99 ma_5 (by omega) (by omega) ?_
                try rw [m 5 _ (by omega)]
                refine fm_icmp_eq (⟨by omega, by omega⟩) (⟨by omega, by omega⟩) 106 dX9_mend_100 (by decide) (fun h100 => ?_) (fun h100 => ?_)
                · have t3 : mayP σ (p.toNat - 1) (srcs σ p.toNat) := by rw [← (show srcs σ (p.toNat - 1) = srcs σ p.toNat by omega)]; exact t2
                  have u3 : mayP σ (p.toNat + 1) (srcs σ p.toNat) := by rw [← (show srcs σ (p.toNat + 1) = srcs σ p.toNat by omega)]; exact u2
                  refine fm_ald0 dX9_mend_106 ?_
                  refine fm_ild2 dX9_mend_107 ?_
                  refine fm_ild1 dX9_mend_108 ?_
                  refine fm_iconst dX9_mend_109 ?_
                  refine fm_isub dX9_mend_110 ?_
                  refine fm_cvI dX9_mend_111 cl_X9_119 (k_X9_worn hi g (p := p - 1) (by omega) (by omega) (by rw [Int.toNat_natCast, em (by omega)]; omega)) mb_0 rfl rfl (by decide) rfl rfl (Nat.le_of_ble_eq_true rfl) (fun z111 s111 q111 => ?_)
                  obtain ⟨rfl, rfl⟩ := q111
                  rw [Int.toNat_natCast, em (by omega)]
                  refine fm_ist3 rfl dX9_mend_114 ?_
                  refine fm_ald0 dX9_mend_115 ?_
                  refine fm_ild2 dX9_mend_116 ?_
                  refine fm_ild1 dX9_mend_117 ?_
                  refine fm_iconst dX9_mend_118 ?_
                  refine fm_iadd dX9_mend_119 ?_
                  refine fm_cvI dX9_mend_120 cl_X9_119 (k_X9_worn hi g (p := p + 1) (by omega) (by omega) (by rw [Int.toNat_natCast, ep]; omega)) mb_0 rfl rfl (by decide) rfl rfl (Nat.le_of_ble_eq_true rfl) (fun z120 s120 q120 => ?_)
                  obtain ⟨rfl, rfl⟩ := q120
                  rw [Int.toNat_natCast, ep]
                  refine fm_ist4 rfl dX9_mend_123 ?_
                  refine fm_ild3 dX9_mend_125 ?_
                  refine fm_ald0 dX9_mend_126 ?_
                  refine fm_ild2 dX9_mend_127 ?_
                  refine fm_ild1 dX9_mend_128 ?_
                  refine fm_cvI dX9_mend_129 cl_X9_119 (k_X9_worn hi g (by omega) (by omega) (by rw [Int.toNat_natCast]; omega)) mb_0 rfl rfl (by decide) rfl rfl (Nat.le_of_ble_eq_true rfl) (fun z129 s129 q129 => ?_)
                  obtain ⟨rfl, rfl⟩ := q129
                  rw [Int.toNat_natCast]
                  refine fm_icmp_ge (⟨by omega, by omega⟩) (⟨by omega, by omega⟩) 146 dX9_mend_132 (by decide) (fun h132 => ?_) (fun h132 => ?_)
                  · refine fm_bipush (by decide) dX9_mend_146 ?_
                    refine fm_iretI dX9_mend_148 rfl ?_
                    unfold sp_mend
                    first
                      | (rw [if_pos (by omega)]; exact ⟨by omega, sam.rfl⟩)
                      | (rw [if_neg (by omega), if_pos (by omega)]; exact ⟨by omega, g.1⟩)
                      | (rw [if_neg (by omega), if_neg (by omega)]; exact ⟨rfl, sam_kp g.1 m16⟩)
                  · refine fm_ild4 dX9_mend_135 ?_
                    refine fm_ald0 dX9_mend_137 ?_
                    refine fm_ild2 dX9_mend_138 ?_
                    refine fm_ild1 dX9_mend_139 ?_
                    refine fm_cvI dX9_mend_140 cl_X9_119 (k_X9_worn hi g (by omega) (by omega) (by rw [Int.toNat_natCast]; omega)) mb_0 rfl rfl (by decide) rfl rfl (Nat.le_of_ble_eq_true rfl) (fun z140 s140 q140 => ?_)
                    obtain ⟨rfl, rfl⟩ := q140
                    rw [Int.toNat_natCast]
                    refine fm_icmp_lt (⟨by omega, by omega⟩) (⟨by omega, by omega⟩) 149 dX9_mend_143 (by decide) (fun h143 => ?_) (fun h143 => ?_)
                    · refine fm_ild3 dX9_mend_149 ?_
                      refine fm_ild4 dX9_mend_150 ?_
                      refine fm_icmp_le (⟨by omega, by omega⟩) (⟨by omega, by omega⟩) 159 dX9_mend_152 (by decide) (fun h152 => ?_) (fun h152 => ?_)
                      · refine fm_ild4 dX9_mend_159 ?_
                        refine fm_top (show _ = mdv σ p.toNat by unfold mdv; omega) ?_
                        refine fm_ist5 rfl dX9_mend_161 ?_
                        refine fm_ald0 dX9_mend_163 ?_
                        refine fm_bipush (by decide) dX9_mend_164 ?_
                        refine fm_ild2 dX9_mend_166 ?_
                        refine fm_imul dX9_mend_167 ?_
                        refine fm_ald0 dX9_mend_168 ?_
                        refine gr_8_21 dX9_mend_169 fd_X9_61 ?_
                        refine fm_bipush (by decide) dX9_mend_172 ?_
                        refine fm_ild2 dX9_mend_174 ?_
                        refine fm_imul dX9_mend_175 ?_
                        refine fm_ild1 dX9_mend_176 ?_
                        refine fm_iadd dX9_mend_177 ?_
                        refine fm_iald dX9_mend_178 ma_18 (by omega) (by omega) ?_
                        rw [es (by omega) (by omega)]
                        refine fm_iadd dX9_mend_179 ?_
                        refine fm_ild5 dX9_mend_180 ?_
                        refine fm_cvN dX9_mend_182 cl_X9_98 (k_X9_keeps (by omega) (by omega)) mb_0 rfl rfl (by decide) rfl rfl (Nat.le_of_ble_eq_true rfl) (fun s182 q182 => ?_)
                        subst q182
                        refine fm_ild5 dX9_mend_185 ?_
                        refine fm_iretI dX9_mend_187 rfl ?_
                        unfold sp_mend
                        first
                          | (rw [if_pos (by omega)]; exact ⟨by omega, sam.rfl⟩)
                          | (rw [if_neg (by omega), if_pos (by omega)]; exact ⟨by omega, g.1⟩)
                          | (rw [if_neg (by omega), if_neg (by omega)]; exact ⟨rfl, sam_kp g.1 m16⟩)
                      · refine fm_ild3 dX9_mend_155 ?_
                        refine fm_top (show _ = mdv σ p.toNat by unfold mdv; omega) ?_
                        refine fm_goto 161 dX9_mend_156 (by decide) ?_
                        refine fm_ist5 rfl dX9_mend_161 ?_
                        refine fm_ald0 dX9_mend_163 ?_
                        refine fm_bipush (by decide) dX9_mend_164 ?_
                        refine fm_ild2 dX9_mend_166 ?_
                        refine fm_imul dX9_mend_167 ?_
                        refine fm_ald0 dX9_mend_168 ?_
                        refine gr_8_21 dX9_mend_169 fd_X9_61 ?_
                        refine fm_bipush (by decide) dX9_mend_172 ?_
                        refine fm_ild2 dX9_mend_174 ?_
                        refine fm_imul dX9_mend_175 ?_
                        refine fm_ild1 dX9_mend_176 ?_
                        refine fm_iadd dX9_mend_177 ?_
                        refine fm_iald dX9_mend_178 ma_18 (by omega) (by omega) ?_
                        rw [es (by omega) (by omega)]
                        refine fm_iadd dX9_mend_179 ?_
                        refine fm_ild5 dX9_mend_180 ?_
                        refine fm_cvN dX9_mend_182 cl_X9_98 (k_X9_keeps (by omega) (by omega)) mb_0 rfl rfl (by decide) rfl rfl (Nat.le_of_ble_eq_true rfl) (fun s182 q182 => ?_)
                        subst q182
                        refine fm_ild5 dX9_mend_185 ?_
                        refine fm_iretI dX9_mend_187 rfl ?_
                        unfold sp_mend
                        first
                          | (rw [if_pos (by omega)]; exact ⟨by omega, sam.rfl⟩)
                          | (rw [if_neg (by omega), if_pos (by omega)]; exact ⟨by omega, g.1⟩)
                          | (rw [if_neg (by omega), if_neg (by omega)]; exact ⟨rfl, sam_kp g.1 m16⟩)
                    · refine fm_bipush (by decide) dX9_mend_146 ?_
                      refine fm_iretI dX9_mend_148 rfl ?_
                      unfold sp_mend
                      first
                        | (rw [if_pos (by omega)]; exact ⟨by omega, sam.rfl⟩)
                        | (rw [if_neg (by omega), if_pos (by omega)]; exact ⟨by omega, g.1⟩)
                        | (rw [if_neg (by omega), if_neg (by omega)]; exact ⟨rfl, sam_kp g.1 m16⟩)
                · refine fm_bipush (by decide) dX9_mend_103 ?_
                  refine fm_iretI dX9_mend_105 rfl ?_
                  unfold sp_mend
                  first
                    | (rw [if_pos (by omega)]; exact ⟨by omega, sam.rfl⟩)
                    | (rw [if_neg (by omega), if_pos (by omega)]; exact ⟨by omega, g.1⟩)
                    | (rw [if_neg (by omega), if_neg (by omega)]; exact ⟨rfl, sam_kp g.1 m16⟩)
  · refine fm_iconst dX9_mend_8 ?_
    refine fm_iretI dX9_mend_9 rfl ?_
    unfold sp_mend
    first
      | (rw [if_pos (by omega)]; exact ⟨by omega, sam.rfl⟩)
      | (rw [if_neg (by omega), if_pos (by omega)]; exact ⟨by omega, g.1⟩)
      | (rw [if_neg (by omega), if_neg (by omega)]; exact ⟨rfl, sam_kp g.1 m16⟩)
set_option maxRecDepth 20000 in
set_option maxHeartbeats 4000000 in
theorem k_mtO {ω : fm_O} {τ μ : fm_Mem} (hi : fj μ) (h : sam μ τ) {c i : Int} (rc : fm_R c) (ri : fm_R i) : fm_Met km ω yX9_tintOf cX9_tintOf 5 (some .int) (fm_rm 1) [fm_r ω 0, fm_I c, fm_I i] τ (fm_pI fun z σ' => z = ltn μ c i ∧ τ = σ') := by
  have k1 := k_X9_tintOf (ω := ω) (σ := τ) rc ri (fj_sam hi h).fi
  have e : ltint (τ 7) (τ 8) (τ 9) (τ 10) c i (τ 0 7).toNat = ltn μ c i := by
    unfold ltn
    rw [h 0 7 (by omega)]
    exact ltint_cong _ (fun k _ => ⟨h 7 k (by omega), h 8 k (by omega), h 9 k (by omega), h 10 k (by omega)⟩)
  rw [e] at k1
  exact k1
set_option maxRecDepth 20000 in
set_option maxHeartbeats 4000000 in
theorem l_mtlw {ω : fm_O} {τ : fm_Mem} {Γ : fm_G} {μ : fm_Mem} (hi : fj μ) (g : sgm μ τ) {p : Int} (hp : 0 ≤ p ∧ p < μ 1 6) : ∀ (d : Nat) (c b1 b2 : Int) (o5 : Option Value), 0 ≤ c → c + d = μ 0 0 → b1 = (tlw μ p.toNat 99 c.toNat).1 → b2 = (tlw μ p.toNat 99 c.toNat).2 → fm_W km ω Γ (cX9_tint, RX9, fm_rm 4, 6, (some .int)) (fm_pI fun z σ' => z = (tlw μ p.toNat 10 (μ 0 0).toNat).2 ∧ sam μ σ') τ 69 [some (fm_r ω 0), some (fm_I p), some (fm_I b2), some (fm_I b1), some (fm_I c), o5] [] := by
  have hf := hi.fi
  have b6 := hf.2.1 6 (by omega)
  have b0 := hf.1
  have m : ∀ k j, k < 16 → τ k j = μ k j := g.1
  intro d
  induction d with
  | zero =>
    intro c b1 b2 o5 h0 hc h1 h2
    refine fm_ild4 dX9_tint_69 ?_
    refine fm_ald0 dX9_tint_71 ?_
    refine gi_8_0 dX9_tint_72 fd_X9_73 ?_
    rw [m 0 0 (by omega)]
    refine fm_icmp_ge (⟨by omega, by omega⟩) (⟨by omega, by omega⟩) 150 dX9_tint_75 (by decide) (fun h75 => ?_) (fun h75 => ?_)
    · refine fm_ild2 dX9_tint_150 ?_
      exact fm_iretI dX9_tint_151 rfl ⟨by rw [h2, show c = μ 0 0 by omega, tlw_2 hf], g.1⟩
    · exfalso; omega
  | succ d ih =>
    intro c b1 b2 o5 h0 hc h1 h2
    have e1 : (c + 1).toNat = c.toNat + 1 := by omega
    have tb := tlw_b hf p.toNat (b0 := 99) (by omega) c.toNat
    have wb := wn_b hf p.toNat c.toNat
    have ob := tof_b hf p.toNat c.toNat
    have sb := std_b (μ := μ) (c := c.toNat) (p := p.toNat) (by omega)
    have cb := hf.2.1 c.toNat (by omega)
    have es : τ 18 (40 * c + p).toNat = std μ c.toNat p.toNat := by rw [← g.2 c.toNat p.toNat (by omega) (by omega)]; congr 1; omega
    have lb := ltn_b hf c (std μ c.toNat p.toNat)
    have ot : tof μ p.toNat c.toNat = if std μ c.toNat p.toNat < 0 then 0 else ltn μ c (std μ c.toNat p.toNat) := by
      unfold tof
      rw [show ((c.toNat : Nat) : Int) = c by omega]
    have J : ∀ v : Int, v = tof μ p.toNat c.toNat → (v ≠ 0 → 0 ≤ std μ c.toNat p.toNat) → ∀ o5 : Option Value, fm_W km ω Γ (cX9_tint, RX9, fm_rm 4, 6, (some .int)) (fm_pI fun z σ' => z = (tlw μ p.toNat 10 (μ 0 0).toNat).2 ∧ sam μ σ') τ 115 [some (fm_r ω 0), some (fm_I p), some (fm_I b2), some (fm_I b1), some (fm_I c), o5] [fm_I v] := by
      intro v hv hv2 o5
      refine fm_ist5 rfl dX9_tint_115 ?_
      refine fm_ild5 dX9_tint_117 ?_
      refine fm_if_le (⟨by omega, by omega⟩) 144 dX9_tint_119 (by decide) (fun h119 => ?_) (fun h119 => ?_)
      · refine fm_inc4 rfl dX9_tint_144 ?_
        refine fm_goto 69 dX9_tint_147 (by decide) ?_
        refine ih (c + 1) _ _ _ (by omega) (by omega) ?_ ?_
        · rw [e1, tlw]
          first
            | (rw [if_pos (by omega)]; done)
            | (rw [if_neg (by omega)]; exact h1)
        · rw [e1, tlw]
          first
            | (rw [if_pos (by omega)]; exact hv)
            | (rw [if_neg (by omega)]; exact h2)
      · refine fm_ald0 dX9_tint_122 ?_
        refine fm_ild4 dX9_tint_123 ?_
        refine fm_ild1 dX9_tint_125 ?_
        refine fm_cvI dX9_tint_126 cl_X9_119 (k_X9_worn hi g (by omega) hp (by omega)) mb_0 rfl rfl (by decide) rfl rfl (Nat.le_of_ble_eq_true rfl) (fun z126 s126 q126 => ?_)
        obtain ⟨rfl, rfl⟩ := q126
        refine fm_ild3 dX9_tint_129 ?_
        refine fm_icmp_ge (⟨by omega, by omega⟩) (⟨by omega, by omega⟩) 144 dX9_tint_130 (by decide) (fun h130 => ?_) (fun h130 => ?_)
        · refine fm_inc4 rfl dX9_tint_144 ?_
          refine fm_goto 69 dX9_tint_147 (by decide) ?_
          refine ih (c + 1) _ _ _ (by omega) (by omega) ?_ ?_
          · rw [e1, tlw]
            first
              | (rw [if_pos (by omega)]; done)
              | (rw [if_neg (by omega)]; exact h1)
          · rw [e1, tlw]
            first
              | (rw [if_pos (by omega)]; exact hv)
              | (rw [if_neg (by omega)]; exact h2)
        · refine fm_ald0 dX9_tint_133 ?_
          refine fm_ild4 dX9_tint_134 ?_
          refine fm_ild1 dX9_tint_136 ?_
          refine fm_cvI dX9_tint_137 cl_X9_119 (k_X9_worn hi g (by omega) hp (by omega)) mb_0 rfl rfl (by decide) rfl rfl (Nat.le_of_ble_eq_true rfl) (fun z137 s137 q137 => ?_)
          obtain ⟨rfl, rfl⟩ := q137
          refine fm_ist3 rfl dX9_tint_140 ?_
          refine fm_ild5 dX9_tint_141 ?_
          refine fm_ist2 rfl dX9_tint_143 ?_
          refine fm_inc4 rfl dX9_tint_144 ?_
          refine fm_goto 69 dX9_tint_147 (by decide) ?_
          refine ih (c + 1) _ _ _ (by omega) (by omega) ?_ ?_
          · rw [e1, tlw]
            first
              | (rw [if_pos (by omega)]; done)
              | (rw [if_neg (by omega)]; exact h1)
          · rw [e1, tlw]
            first
              | (rw [if_pos (by omega)]; exact hv)
              | (rw [if_neg (by omega)]; exact h2)
    refine fm_ild4 dX9_tint_69 ?_
    refine fm_ald0 dX9_tint_71 ?_
    refine gi_8_0 dX9_tint_72 fd_X9_73 ?_
    rw [m 0 0 (by omega)]
    refine fm_icmp_ge (⟨by omega, by omega⟩) (⟨by omega, by omega⟩) 150 dX9_tint_75 (by decide) (fun h75 => ?_) (fun h75 => ?_)
    · exfalso; omega
    · refine fm_ald0 dX9_tint_78 ?_
      refine gr_8_21 dX9_tint_79 fd_X9_61 ?_
      refine fm_bipush (by decide) dX9_tint_82 ?_
      refine fm_ild4 dX9_tint_84 ?_
      refine fm_imul dX9_tint_86 ?_
      refine fm_ild1 dX9_tint_87 ?_
      refine fm_iadd dX9_tint_88 ?_
      refine fm_iald dX9_tint_89 ma_18 (by omega) (by omega) ?_
      rw [es]
      refine fm_if_ge (⟨by omega, by omega⟩) 97 dX9_tint_90 (by decide) (fun h90 => ?_) (fun h90 => ?_)
      · refine fm_ald0 dX9_tint_97 ?_
        refine fm_ild4 dX9_tint_98 ?_
        refine fm_ald0 dX9_tint_100 ?_
        refine gr_8_21 dX9_tint_101 fd_X9_61 ?_
        refine fm_bipush (by decide) dX9_tint_104 ?_
        refine fm_ild4 dX9_tint_106 ?_
        refine fm_imul dX9_tint_108 ?_
        refine fm_ild1 dX9_tint_109 ?_
        refine fm_iadd dX9_tint_110 ?_
        refine fm_iald dX9_tint_111 ma_18 (by omega) (by omega) ?_
        try rw [es]
        refine fm_cvI dX9_tint_112 cl_X9_143 (k_mtO hi g.1 ⟨by omega, by omega⟩ ⟨by omega, by omega⟩) mb_0 rfl rfl (by decide) rfl rfl (Nat.le_of_ble_eq_true rfl) (fun z112 s112 q112 => ?_)
        obtain ⟨rfl, rfl⟩ := q112
        refine J _ ?_ (by omega) _
        rw [ot]
        first
          | (rw [if_pos (by omega)]; done)
          | (rw [if_neg (by omega)]; done)
      · refine fm_iconst dX9_tint_93 ?_
        refine fm_goto 115 dX9_tint_94 (by decide) ?_
        refine J _ ?_ (by omega) _
        rw [ot]
        first
          | (rw [if_pos (by omega)]; done)
          | (rw [if_neg (by omega)]; done)
set_option maxRecDepth 20000 in
set_option maxHeartbeats 4000000 in
theorem k_X9_tint {ω : fm_O} {σ : fm_Mem} (hi : fj σ) {p : Int} (rp : fm_R p) : fm_Met km ω yX9_tint cX9_tint 6 (some .int) (fm_rm 4) [fm_r ω 0, fm_I p] σ (fm_pI fun z σ' => z = sp_tint σ p ∧ sam σ σ') := by
  refine fm_start (by decide) rfl (Nat.le_of_ble_eq_true rfl) [some (fm_r ω 0), some (fm_I p), none, none, none, none] rfl (fun Γ => ?_)
  have hf := hi.fi
  have b0 := hf.1
  have b6 := hf.2.1 6 (by omega)
  refine fm_ald0 dX9_tint_0 ?_
  refine fm_ild1 dX9_tint_1 ?_
  refine fm_cvI dX9_tint_2 cl_X9_109 (k_X9_isPlace ⟨by omega, by omega⟩ hf) mb_0 rfl rfl (by decide) rfl rfl (Nat.le_of_ble_eq_true rfl) (fun z2 s2 q2 => ?_)
  obtain ⟨q2, rfl⟩ := q2
  refine fm_if_ne (⟨by omega, by omega⟩) 10 dX9_tint_5 (by decide) (fun h5 => ?_) (fun h5 => ?_)
  · refine fm_ald0 dX9_tint_10 ?_
    refine fm_cvI dX9_tint_11 cl_X9_136 (k_X9_wholes hi) mb_0 rfl rfl (by decide) rfl rfl (Nat.le_of_ble_eq_true rfl) (fun z11 s11 q11 => ?_)
    obtain ⟨q0, g, hq⟩ := q11
    obtain ⟨s1, s2⟩ := srcs_ok hf p.toNat
    have ec := hq p.toNat (by omega)
    have sb := std_b (μ := σ) (c := srcs σ p.toNat) (p := p.toNat) (by omega)
    have cs : srcs σ p.toNat < 6 → 0 ≤ σ 1 (srcs σ p.toNat) ∧ σ 1 (srcs σ p.toNat) ≤ 40 := fun q => hf.2.1 _ (by omega)
    have ob := otn_b hf p.toNat
    have oe : otn σ p.toNat = if srcs σ p.toNat = 6 then 0 else ltn σ (srcs σ p.toNat) (std σ (srcs σ p.toNat) p.toNat) := rfl
    have es : srcs σ p.toNat < 6 → 0 ≤ std σ (srcs σ p.toNat) p.toNat → s11 18 (40 * (srcs σ p.toNat : Int) + p).toNat = std σ (srcs σ p.toNat) p.toNat := fun q q2 => by rw [← g.2 (srcs σ p.toNat) p.toNat (std_c hf q (by omega) q2) (by omega)]; congr 1; omega
    refine fm_pop dX9_tint_14 ?_
    refine fm_ald0 dX9_tint_15 ?_
    refine gr_8_23 dX9_tint_16 fd_X9_67 ?_
    refine fm_ild1 dX9_tint_19 ?_
    refine fm_iald dX9_tint_20 ma_20 (by omega) (by omega) ?_
    rw [ec]
    refine fm_bipush (by decide) dX9_tint_21 ?_
    refine fm_icmp_ne (⟨by omega, by omega⟩) (⟨by omega, by omega⟩) 30 dX9_tint_23 (by decide) (fun h23 => ?_) (fun h23 => ?_)
    · refine fm_ald0 dX9_tint_30 ?_
      refine fm_ald0 dX9_tint_31 ?_
      refine gr_8_23 dX9_tint_32 fd_X9_67 ?_
      refine fm_ild1 dX9_tint_35 ?_
      refine fm_iald dX9_tint_36 ma_20 (by omega) (by omega) ?_
      try rw [ec]
      refine fm_ald0 dX9_tint_37 ?_
      refine gr_8_21 dX9_tint_38 fd_X9_61 ?_
      refine fm_bipush (by decide) dX9_tint_41 ?_
      refine fm_ald0 dX9_tint_43 ?_
      refine gr_8_23 dX9_tint_44 fd_X9_67 ?_
      refine fm_ild1 dX9_tint_47 ?_
      refine fm_iald dX9_tint_48 ma_20 (by omega) (by omega) ?_
      try rw [ec]
      refine fm_imul dX9_tint_49 ?_
      refine fm_ild1 dX9_tint_50 ?_
      refine fm_iadd dX9_tint_51 ?_
      refine fm_iald dX9_tint_52 ma_18 (by omega) (by omega) ?_
      rw [es (by omega) (by omega)]
      refine fm_cvI dX9_tint_53 cl_X9_143 (k_mtO hi g.1 ⟨by omega, by omega⟩ ⟨by omega, by omega⟩) mb_0 rfl rfl (by decide) rfl rfl (Nat.le_of_ble_eq_true rfl) (fun z53 s53 q53 => ?_)
      obtain ⟨rfl, rfl⟩ := q53
      rw [← (show otn σ p.toNat = ltn σ (srcs σ p.toNat) (std σ (srcs σ p.toNat) p.toNat) by rw [oe, if_neg (by omega)])]
      refine fm_ist2 rfl dX9_tint_56 ?_
      refine fm_ild2 dX9_tint_57 ?_
      refine fm_if_le (⟨by omega, by omega⟩) 63 dX9_tint_58 (by decide) (fun h58 => ?_) (fun h58 => ?_)
      · refine fm_bipush (by decide) dX9_tint_63 ?_
        refine fm_ist3 rfl dX9_tint_65 ?_
        refine fm_iconst dX9_tint_66 ?_
        refine fm_ist4 rfl dX9_tint_67 ?_
        have hl := l_mtlw (ω := ω) (Γ := Γ) hi g (p := p) (by omega) (σ 0 0).toNat 0 99 (otn σ p.toNat) none (by omega) (by omega) rfl (by show _ = (0 : Int); omega)
        unfold sp_tint
        rw [if_neg (by omega), if_neg (by omega)]
        exact hl
      · refine fm_ild2 dX9_tint_61 ?_
        refine fm_iretI dX9_tint_62 rfl ?_
        unfold sp_tint
        first
          | (rw [if_pos (by omega)]; exact ⟨by omega, sam.rfl⟩)
          | (rw [if_neg (by omega), if_pos (by omega)]; exact ⟨by omega, g.1⟩)
    · refine fm_iconst dX9_tint_26 ?_
      refine fm_top (show (0 : Int) = otn σ p.toNat by rw [oe, if_pos (by omega)]) ?_
      refine fm_goto 56 dX9_tint_27 (by decide) ?_
      refine fm_ist2 rfl dX9_tint_56 ?_
      refine fm_ild2 dX9_tint_57 ?_
      refine fm_if_le (⟨by omega, by omega⟩) 63 dX9_tint_58 (by decide) (fun h58 => ?_) (fun h58 => ?_)
      · refine fm_bipush (by decide) dX9_tint_63 ?_
        refine fm_ist3 rfl dX9_tint_65 ?_
        refine fm_iconst dX9_tint_66 ?_
        refine fm_ist4 rfl dX9_tint_67 ?_
        have hl := l_mtlw (ω := ω) (Γ := Γ) hi g (p := p) (by omega) (σ 0 0).toNat 0 99 (otn σ p.toNat) none (by omega) (by omega) rfl (by show _ = (0 : Int); omega)
        unfold sp_tint
        rw [if_neg (by omega), if_neg (by omega)]
        exact hl
      · refine fm_ild2 dX9_tint_61 ?_
        refine fm_iretI dX9_tint_62 rfl ?_
        unfold sp_tint
        first
          | (rw [if_pos (by omega)]; exact ⟨by omega, sam.rfl⟩)
          | (rw [if_neg (by omega), if_pos (by omega)]; exact ⟨by omega, g.1⟩)
  · refine fm_iconst dX9_tint_8 ?_
    refine fm_iretI dX9_tint_9 rfl ?_
    unfold sp_tint
    first
      | (rw [if_pos (by omega)]; exact ⟨by omega, sam.rfl⟩)
      | (rw [if_neg (by omega), if_pos (by omega)]; exact ⟨by omega, g.1⟩)
