/-! line, stands: both sides -/
def lnx (c : Int) : Int := if c < 0 then 6 else c
theorem lnx_c (c : Int) : (c < 0 → lnx c = 6) ∧ (¬ c < 0 → lnx c = c) := ⟨fun h => if_pos h, fun h => if_neg h⟩
def lcost (μ : fm_Mem) (a b : Int) : Int := lct (lf μ a) (lf μ b) (μ 1 a.toNat).toNat (μ 1 b.toNat).toNat 0 0
def lpart (μ : fm_Mem) (a b : Int) (k : Nat) : Int := lpt (lf μ a) (lf μ b) (μ 1 a.toNat).toNat (μ 1 b.toNat).toNat k
def sp_line (μ : fm_Mem) (x y i : Int) : Int := if ¬ ((x = -1 ∨ isC μ x) ∧ (y = -1 ∨ isC μ y) ∧ -1 ≤ i ∧ i < μ 1 (lnx x).toNat) then -1 else if i < 0 then lcost μ (lnx x) (lnx y) else lpart μ (lnx x) (lnx y) i.toNat
/-- the frame of copy c that stands for place p, or none -/
def std (μ : fm_Mem) (c p : Nat) : Int := if 0 ≤ lpart μ 6 c p ∧ -μ 6 0 ≤ μ 2 (240 + p) - μ 2 (40 * c + (lpart μ 6 c p).toNat) ∧ μ 2 (240 + p) - μ 2 (40 * c + (lpart μ 6 c p).toNat) ≤ μ 6 0 then lpart μ 6 c p else -4
theorem std_b {μ : fm_Mem} {c p : Nat} (h : (p : Int) < μ 1 6) : std μ c p = -4 ∨ (0 ≤ std μ c p ∧ std μ c p < μ 1 c) := by
  have h1 : lpart μ 6 c p = -4 ∨ (0 ≤ lpart μ 6 c p ∧ lpart μ 6 c p < (μ 1 (c : Int).toNat).toNat) := lpt_b (show p < (μ 1 (6 : Int).toNat).toNat by rw [show (6 : Int).toNat = 6 from rfl]; omega)
  rw [Int.toNat_natCast] at h1
  unfold std
  split
  · omega
  · exact Or.inl rfl
def sp_stands (μ : fm_Mem) (c p : Int) : Int := if ¬ (isC μ c ∧ 0 ≤ p ∧ p < μ 1 6) then -1 else std μ c.toNat p.toNat
theorem lf_sam {μ μ' : fm_Mem} (h : sam μ μ') (x : Int) : lf μ' x = lf μ x := by funext k; exact h 2 _ (by omega)
theorem lpart_sam {μ μ' : fm_Mem} (h : sam μ μ') (a b : Int) (k : Nat) : lpart μ' a b k = lpart μ a b k := by
  unfold lpart
  rw [lf_sam h, lf_sam h, h 1 _ (by omega), h 1 _ (by omega)]
theorem std_sam {μ μ' : fm_Mem} (h : sam μ μ') (c p : Nat) : std μ' c p = std μ c p := by
  unfold std
  rw [lpart_sam h, h 6 _ (by omega), h 2 _ (by omega), h 2 _ (by omega)]
set_option maxRecDepth 20000 in
set_option maxHeartbeats 4000000 in
theorem k_X9_line {ω : fm_O} {σ : fm_Mem} (hi : fj σ) {x y i : Int} (rx : fm_R x) (ry : fm_R y) (ri : fm_R i) : fm_Met km ω yX9_line cX9_line 5 (some .int) (fm_rm 2) [fm_r ω 0, fm_I x, fm_I y, fm_I i] σ (fm_pI fun z σ' => z = sp_line σ x y i ∧ sam σ σ') := by
  refine fm_start (by decide) rfl (Nat.le_of_ble_eq_true rfl) [some (fm_r ω 0), some (fm_I x), some (fm_I y), some (fm_I i), none] rfl (fun Γ => ?_)
  have hf := hi.fi
  have b0 := hf.1
  unfold sp_line
  obtain ⟨a, ea⟩ : ∃ a, a = lnx x := ⟨_, rfl⟩
  obtain ⟨b, eb⟩ : ∃ b, b = lnx y := ⟨_, rfl⟩
  have ca := lnx_c x
  have cb := lnx_c y
  rw [← ea, ← eb]
  rw [← ea] at ca
  rw [← eb] at cb
  refine fm_ild1 dX9_line_0 ?_
  refine fm_iconst dX9_line_1 ?_
  refine fm_icmp_eq (⟨by omega, by omega⟩) (⟨by omega, by omega⟩) 13 dX9_line_2 (by decide) (fun h2 => ?_) (fun h2 => ?_)
  · refine fm_ild2 dX9_line_13 ?_
    refine fm_iconst dX9_line_14 ?_
    refine fm_icmp_eq (⟨by omega, by omega⟩) (⟨by omega, by omega⟩) 28 dX9_line_15 (by decide) (fun h15 => ?_) (fun h15 => ?_)
    · refine fm_ild1 dX9_line_28 ?_
      refine fm_if_ge (⟨by omega, by omega⟩) 37 dX9_line_29 (by decide) (fun h29 => ?_) (fun h29 => ?_)
      · refine fm_ild1 dX9_line_37 ?_
        refine fm_top (show x = a by omega) ?_
        refine fm_ist4 rfl dX9_line_38 ?_
        refine fm_ild3 dX9_line_40 ?_
        refine fm_iconst dX9_line_41 ?_
        refine fm_ald0 dX9_line_42 ?_
        refine gr_8_1 dX9_line_43 fd_X9_7 ?_
        refine fm_ild4 dX9_line_46 ?_
        have sa := hf.2.1 a.toNat (by omega)
        refine fm_iald dX9_line_48 ma_1 (by omega) (by omega) ?_
        refine fm_iconst dX9_line_49 ?_
        refine fm_isub dX9_line_50 ?_
        refine fm_csI dX9_line_51 cl_X9_77 (k_X9_in ⟨by omega, by omega⟩ ⟨by omega, by omega⟩ ⟨by omega, by omega⟩) rfl rfl (by decide) rfl rfl (Nat.le_of_ble_eq_true rfl) (fun z51 s51 q51 => ?_)
        obtain ⟨q51, rfl⟩ := q51
        refine fm_if_ne (⟨by omega, by omega⟩) 59 dX9_line_54 (by decide) (fun h54 => ?_) (fun h54 => ?_)
        · refine fm_ald0 dX9_line_59 ?_
          refine fm_ild4 dX9_line_60 ?_
          refine fm_ild2 dX9_line_62 ?_
          refine fm_if_ge (⟨by omega, by omega⟩) 71 dX9_line_63 (by decide) (fun h63 => ?_) (fun h63 => ?_)
          · refine fm_ild2 dX9_line_71 ?_
            refine fm_top (show y = b by omega) ?_
            refine fm_cvN dX9_line_72 cl_X9_106 (k_X9_lines hf (by omega) (by omega)) mb_0 rfl rfl (by decide) rfl rfl (Nat.le_of_ble_eq_true rfl) (fun s72 q72 => ?_)
            refine fm_ild3 dX9_line_75 ?_
            refine fm_if_ge (⟨by omega, by omega⟩) 88 dX9_line_76 (by decide) (fun h76 => ?_) (fun h76 => ?_)
            · refine fm_ald0 dX9_line_88 ?_
              refine gr_8_20 dX9_line_89 fd_X9_58 ?_
              refine fm_ild3 dX9_line_92 ?_
              refine fm_iald dX9_line_93 ma_17 (by omega) (by omega) ?_
              refine fm_iretI dX9_line_94 rfl ?_
              first
                | (rw [if_pos (by omega)]; exact ⟨by omega, sam.rfl⟩)
                | (rw [if_neg (by omega), if_pos (by omega)]; exact ⟨q72.2.1 0 0 (by omega) (by omega), q72.1.sam⟩)
                | (rw [if_neg (by omega), if_neg (by omega)]; exact ⟨q72.2.2 i.toNat (by omega), q72.1.sam⟩)
            · refine fm_ald0 dX9_line_79 ?_
              refine gr_8_19 dX9_line_80 fd_X9_55 ?_
              refine fm_iconst dX9_line_83 ?_
              refine fm_iald dX9_line_84 ma_16 (by omega) (by omega) ?_
              refine fm_goto 94 dX9_line_85 (by decide) ?_
              refine fm_iretI dX9_line_94 rfl ?_
              first
                | (rw [if_pos (by omega)]; exact ⟨by omega, sam.rfl⟩)
                | (rw [if_neg (by omega), if_pos (by omega)]; exact ⟨q72.2.1 0 0 (by omega) (by omega), q72.1.sam⟩)
                | (rw [if_neg (by omega), if_neg (by omega)]; exact ⟨q72.2.2 i.toNat (by omega), q72.1.sam⟩)
          · refine fm_bipush (by decide) dX9_line_66 ?_
            refine fm_top (show (6 : Int) = b by omega) ?_
            refine fm_goto 72 dX9_line_68 (by decide) ?_
            refine fm_cvN dX9_line_72 cl_X9_106 (k_X9_lines hf (by omega) (by omega)) mb_0 rfl rfl (by decide) rfl rfl (Nat.le_of_ble_eq_true rfl) (fun s72 q72 => ?_)
            refine fm_ild3 dX9_line_75 ?_
            refine fm_if_ge (⟨by omega, by omega⟩) 88 dX9_line_76 (by decide) (fun h76 => ?_) (fun h76 => ?_)
            · refine fm_ald0 dX9_line_88 ?_
              refine gr_8_20 dX9_line_89 fd_X9_58 ?_
              refine fm_ild3 dX9_line_92 ?_
              refine fm_iald dX9_line_93 ma_17 (by omega) (by omega) ?_
              refine fm_iretI dX9_line_94 rfl ?_
              first
                | (rw [if_pos (by omega)]; exact ⟨by omega, sam.rfl⟩)
                | (rw [if_neg (by omega), if_pos (by omega)]; exact ⟨q72.2.1 0 0 (by omega) (by omega), q72.1.sam⟩)
                | (rw [if_neg (by omega), if_neg (by omega)]; exact ⟨q72.2.2 i.toNat (by omega), q72.1.sam⟩)
            · refine fm_ald0 dX9_line_79 ?_
              refine gr_8_19 dX9_line_80 fd_X9_55 ?_
              refine fm_iconst dX9_line_83 ?_
              refine fm_iald dX9_line_84 ma_16 (by omega) (by omega) ?_
              refine fm_goto 94 dX9_line_85 (by decide) ?_
              refine fm_iretI dX9_line_94 rfl ?_
              first
                | (rw [if_pos (by omega)]; exact ⟨by omega, sam.rfl⟩)
                | (rw [if_neg (by omega), if_pos (by omega)]; exact ⟨q72.2.1 0 0 (by omega) (by omega), q72.1.sam⟩)
                | (rw [if_neg (by omega), if_neg (by omega)]; exact ⟨q72.2.2 i.toNat (by omega), q72.1.sam⟩)
        · refine fm_iconst dX9_line_57 ?_
          refine fm_iretI dX9_line_58 rfl ?_
          first
            | (rw [if_pos (by omega)]; exact ⟨by omega, sam.rfl⟩)
            | (rw [if_neg (by omega), if_pos (by omega)]; exact ⟨q72.2.1 0 0 (by omega) (by omega), q72.1.sam⟩)
            | (rw [if_neg (by omega), if_neg (by omega)]; exact ⟨q72.2.2 i.toNat (by omega), q72.1.sam⟩)
      · refine fm_bipush (by decide) dX9_line_32 ?_
        refine fm_top (show (6 : Int) = a by omega) ?_
        refine fm_goto 38 dX9_line_34 (by decide) ?_
        refine fm_ist4 rfl dX9_line_38 ?_
        refine fm_ild3 dX9_line_40 ?_
        refine fm_iconst dX9_line_41 ?_
        refine fm_ald0 dX9_line_42 ?_
        refine gr_8_1 dX9_line_43 fd_X9_7 ?_
        refine fm_ild4 dX9_line_46 ?_
        have sa := hf.2.1 a.toNat (by omega)
        refine fm_iald dX9_line_48 ma_1 (by omega) (by omega) ?_
        refine fm_iconst dX9_line_49 ?_
        refine fm_isub dX9_line_50 ?_
        refine fm_csI dX9_line_51 cl_X9_77 (k_X9_in ⟨by omega, by omega⟩ ⟨by omega, by omega⟩ ⟨by omega, by omega⟩) rfl rfl (by decide) rfl rfl (Nat.le_of_ble_eq_true rfl) (fun z51 s51 q51 => ?_)
        obtain ⟨q51, rfl⟩ := q51
        refine fm_if_ne (⟨by omega, by omega⟩) 59 dX9_line_54 (by decide) (fun h54 => ?_) (fun h54 => ?_)
        · refine fm_ald0 dX9_line_59 ?_
          refine fm_ild4 dX9_line_60 ?_
          refine fm_ild2 dX9_line_62 ?_
          refine fm_if_ge (⟨by omega, by omega⟩) 71 dX9_line_63 (by decide) (fun h63 => ?_) (fun h63 => ?_)
          · refine fm_ild2 dX9_line_71 ?_
            refine fm_top (show y = b by omega) ?_
            refine fm_cvN dX9_line_72 cl_X9_106 (k_X9_lines hf (by omega) (by omega)) mb_0 rfl rfl (by decide) rfl rfl (Nat.le_of_ble_eq_true rfl) (fun s72 q72 => ?_)
            refine fm_ild3 dX9_line_75 ?_
            refine fm_if_ge (⟨by omega, by omega⟩) 88 dX9_line_76 (by decide) (fun h76 => ?_) (fun h76 => ?_)
            · refine fm_ald0 dX9_line_88 ?_
              refine gr_8_20 dX9_line_89 fd_X9_58 ?_
              refine fm_ild3 dX9_line_92 ?_
              refine fm_iald dX9_line_93 ma_17 (by omega) (by omega) ?_
              refine fm_iretI dX9_line_94 rfl ?_
              first
                | (rw [if_pos (by omega)]; exact ⟨by omega, sam.rfl⟩)
                | (rw [if_neg (by omega), if_pos (by omega)]; exact ⟨q72.2.1 0 0 (by omega) (by omega), q72.1.sam⟩)
                | (rw [if_neg (by omega), if_neg (by omega)]; exact ⟨q72.2.2 i.toNat (by omega), q72.1.sam⟩)
            · refine fm_ald0 dX9_line_79 ?_
              refine gr_8_19 dX9_line_80 fd_X9_55 ?_
              refine fm_iconst dX9_line_83 ?_
              refine fm_iald dX9_line_84 ma_16 (by omega) (by omega) ?_
              refine fm_goto 94 dX9_line_85 (by decide) ?_
              refine fm_iretI dX9_line_94 rfl ?_
              first
                | (rw [if_pos (by omega)]; exact ⟨by omega, sam.rfl⟩)
                | (rw [if_neg (by omega), if_pos (by omega)]; exact ⟨q72.2.1 0 0 (by omega) (by omega), q72.1.sam⟩)
                | (rw [if_neg (by omega), if_neg (by omega)]; exact ⟨q72.2.2 i.toNat (by omega), q72.1.sam⟩)
          · refine fm_bipush (by decide) dX9_line_66 ?_
            refine fm_top (show (6 : Int) = b by omega) ?_
            refine fm_goto 72 dX9_line_68 (by decide) ?_
            refine fm_cvN dX9_line_72 cl_X9_106 (k_X9_lines hf (by omega) (by omega)) mb_0 rfl rfl (by decide) rfl rfl (Nat.le_of_ble_eq_true rfl) (fun s72 q72 => ?_)
            refine fm_ild3 dX9_line_75 ?_
            refine fm_if_ge (⟨by omega, by omega⟩) 88 dX9_line_76 (by decide) (fun h76 => ?_) (fun h76 => ?_)
            · refine fm_ald0 dX9_line_88 ?_
              refine gr_8_20 dX9_line_89 fd_X9_58 ?_
              refine fm_ild3 dX9_line_92 ?_
              refine fm_iald dX9_line_93 ma_17 (by omega) (by omega) ?_
              refine fm_iretI dX9_line_94 rfl ?_
              first
                | (rw [if_pos (by omega)]; exact ⟨by omega, sam.rfl⟩)
                | (rw [if_neg (by omega), if_pos (by omega)]; exact ⟨q72.2.1 0 0 (by omega) (by omega), q72.1.sam⟩)
                | (rw [if_neg (by omega), if_neg (by omega)]; exact ⟨q72.2.2 i.toNat (by omega), q72.1.sam⟩)
            · refine fm_ald0 dX9_line_79 ?_
              refine gr_8_19 dX9_line_80 fd_X9_55 ?_
              refine fm_iconst dX9_line_83 ?_
              refine fm_iald dX9_line_84 ma_16 (by omega) (by omega) ?_
              refine fm_goto 94 dX9_line_85 (by decide) ?_
              refine fm_iretI dX9_line_94 rfl ?_
              first
                | (rw [if_pos (by omega)]; exact ⟨by omega, sam.rfl⟩)
                | (rw [if_neg (by omega), if_pos (by omega)]; exact ⟨q72.2.1 0 0 (by omega) (by omega), q72.1.sam⟩)
                | (rw [if_neg (by omega), if_neg (by omega)]; exact ⟨q72.2.2 i.toNat (by omega), q72.1.sam⟩)
        · refine fm_iconst dX9_line_57 ?_
          refine fm_iretI dX9_line_58 rfl ?_
          first
            | (rw [if_pos (by omega)]; exact ⟨by omega, sam.rfl⟩)
            | (rw [if_neg (by omega), if_pos (by omega)]; exact ⟨q72.2.1 0 0 (by omega) (by omega), q72.1.sam⟩)
            | (rw [if_neg (by omega), if_neg (by omega)]; exact ⟨q72.2.2 i.toNat (by omega), q72.1.sam⟩)
    · refine fm_ald0 dX9_line_18 ?_
      refine fm_ild2 dX9_line_19 ?_
      refine fm_cvI dX9_line_20 cl_X9_81 (k_X9_isCopy ⟨by omega, by omega⟩ b0) mb_0 rfl rfl (by decide) rfl rfl (Nat.le_of_ble_eq_true rfl) (fun z20 s20 q20 => ?_)
      obtain ⟨q20, rfl⟩ := q20
      refine fm_if_ne (⟨by omega, by omega⟩) 28 dX9_line_23 (by decide) (fun h23 => ?_) (fun h23 => ?_)
      · refine fm_ild1 dX9_line_28 ?_
        refine fm_if_ge (⟨by omega, by omega⟩) 37 dX9_line_29 (by decide) (fun h29 => ?_) (fun h29 => ?_)
        · refine fm_ild1 dX9_line_37 ?_
          refine fm_top (show x = a by omega) ?_
          refine fm_ist4 rfl dX9_line_38 ?_
          refine fm_ild3 dX9_line_40 ?_
          refine fm_iconst dX9_line_41 ?_
          refine fm_ald0 dX9_line_42 ?_
          refine gr_8_1 dX9_line_43 fd_X9_7 ?_
          refine fm_ild4 dX9_line_46 ?_
          have sa := hf.2.1 a.toNat (by omega)
          refine fm_iald dX9_line_48 ma_1 (by omega) (by omega) ?_
          refine fm_iconst dX9_line_49 ?_
          refine fm_isub dX9_line_50 ?_
          refine fm_csI dX9_line_51 cl_X9_77 (k_X9_in ⟨by omega, by omega⟩ ⟨by omega, by omega⟩ ⟨by omega, by omega⟩) rfl rfl (by decide) rfl rfl (Nat.le_of_ble_eq_true rfl) (fun z51 s51 q51 => ?_)
          obtain ⟨q51, rfl⟩ := q51
          refine fm_if_ne (⟨by omega, by omega⟩) 59 dX9_line_54 (by decide) (fun h54 => ?_) (fun h54 => ?_)
          · refine fm_ald0 dX9_line_59 ?_
            refine fm_ild4 dX9_line_60 ?_
            refine fm_ild2 dX9_line_62 ?_
            refine fm_if_ge (⟨by omega, by omega⟩) 71 dX9_line_63 (by decide) (fun h63 => ?_) (fun h63 => ?_)
            · refine fm_ild2 dX9_line_71 ?_
              refine fm_top (show y = b by omega) ?_
              refine fm_cvN dX9_line_72 cl_X9_106 (k_X9_lines hf (by omega) (by omega)) mb_0 rfl rfl (by decide) rfl rfl (Nat.le_of_ble_eq_true rfl) (fun s72 q72 => ?_)
              refine fm_ild3 dX9_line_75 ?_
              refine fm_if_ge (⟨by omega, by omega⟩) 88 dX9_line_76 (by decide) (fun h76 => ?_) (fun h76 => ?_)
              · refine fm_ald0 dX9_line_88 ?_
                refine gr_8_20 dX9_line_89 fd_X9_58 ?_
                refine fm_ild3 dX9_line_92 ?_
                refine fm_iald dX9_line_93 ma_17 (by omega) (by omega) ?_
                refine fm_iretI dX9_line_94 rfl ?_
                first
                  | (rw [if_pos (by omega)]; exact ⟨by omega, sam.rfl⟩)
                  | (rw [if_neg (by omega), if_pos (by omega)]; exact ⟨q72.2.1 0 0 (by omega) (by omega), q72.1.sam⟩)
                  | (rw [if_neg (by omega), if_neg (by omega)]; exact ⟨q72.2.2 i.toNat (by omega), q72.1.sam⟩)
              · refine fm_ald0 dX9_line_79 ?_
                refine gr_8_19 dX9_line_80 fd_X9_55 ?_
                refine fm_iconst dX9_line_83 ?_
                refine fm_iald dX9_line_84 ma_16 (by omega) (by omega) ?_
                refine fm_goto 94 dX9_line_85 (by decide) ?_
                refine fm_iretI dX9_line_94 rfl ?_
                first
                  | (rw [if_pos (by omega)]; exact ⟨by omega, sam.rfl⟩)
                  | (rw [if_neg (by omega), if_pos (by omega)]; exact ⟨q72.2.1 0 0 (by omega) (by omega), q72.1.sam⟩)
                  | (rw [if_neg (by omega), if_neg (by omega)]; exact ⟨q72.2.2 i.toNat (by omega), q72.1.sam⟩)
            · refine fm_bipush (by decide) dX9_line_66 ?_
              refine fm_top (show (6 : Int) = b by omega) ?_
              refine fm_goto 72 dX9_line_68 (by decide) ?_
              refine fm_cvN dX9_line_72 cl_X9_106 (k_X9_lines hf (by omega) (by omega)) mb_0 rfl rfl (by decide) rfl rfl (Nat.le_of_ble_eq_true rfl) (fun s72 q72 => ?_)
              refine fm_ild3 dX9_line_75 ?_
              refine fm_if_ge (⟨by omega, by omega⟩) 88 dX9_line_76 (by decide) (fun h76 => ?_) (fun h76 => ?_)
              · refine fm_ald0 dX9_line_88 ?_
                refine gr_8_20 dX9_line_89 fd_X9_58 ?_
                refine fm_ild3 dX9_line_92 ?_
                refine fm_iald dX9_line_93 ma_17 (by omega) (by omega) ?_
                refine fm_iretI dX9_line_94 rfl ?_
                first
                  | (rw [if_pos (by omega)]; exact ⟨by omega, sam.rfl⟩)
                  | (rw [if_neg (by omega), if_pos (by omega)]; exact ⟨q72.2.1 0 0 (by omega) (by omega), q72.1.sam⟩)
                  | (rw [if_neg (by omega), if_neg (by omega)]; exact ⟨q72.2.2 i.toNat (by omega), q72.1.sam⟩)
              · refine fm_ald0 dX9_line_79 ?_
                refine gr_8_19 dX9_line_80 fd_X9_55 ?_
                refine fm_iconst dX9_line_83 ?_
                refine fm_iald dX9_line_84 ma_16 (by omega) (by omega) ?_
                refine fm_goto 94 dX9_line_85 (by decide) ?_
                refine fm_iretI dX9_line_94 rfl ?_
                first
                  | (rw [if_pos (by omega)]; exact ⟨by omega, sam.rfl⟩)
                  | (rw [if_neg (by omega), if_pos (by omega)]; exact ⟨q72.2.1 0 0 (by omega) (by omega), q72.1.sam⟩)
                  | (rw [if_neg (by omega), if_neg (by omega)]; exact ⟨q72.2.2 i.toNat (by omega), q72.1.sam⟩)
          · refine fm_iconst dX9_line_57 ?_
            refine fm_iretI dX9_line_58 rfl ?_
            first
              | (rw [if_pos (by omega)]; exact ⟨by omega, sam.rfl⟩)
              | (rw [if_neg (by omega), if_pos (by omega)]; exact ⟨q72.2.1 0 0 (by omega) (by omega), q72.1.sam⟩)
              | (rw [if_neg (by omega), if_neg (by omega)]; exact ⟨q72.2.2 i.toNat (by omega), q72.1.sam⟩)
        · refine fm_bipush (by decide) dX9_line_32 ?_
          refine fm_top (show (6 : Int) = a by omega) ?_
          refine fm_goto 38 dX9_line_34 (by decide) ?_
          refine fm_ist4 rfl dX9_line_38 ?_
          refine fm_ild3 dX9_line_40 ?_
          refine fm_iconst dX9_line_41 ?_
          refine fm_ald0 dX9_line_42 ?_
          refine gr_8_1 dX9_line_43 fd_X9_7 ?_
          refine fm_ild4 dX9_line_46 ?_
          have sa := hf.2.1 a.toNat (by omega)
          refine fm_iald dX9_line_48 ma_1 (by omega) (by omega) ?_
          refine fm_iconst dX9_line_49 ?_
          refine fm_isub dX9_line_50 ?_
          refine fm_csI dX9_line_51 cl_X9_77 (k_X9_in ⟨by omega, by omega⟩ ⟨by omega, by omega⟩ ⟨by omega, by omega⟩) rfl rfl (by decide) rfl rfl (Nat.le_of_ble_eq_true rfl) (fun z51 s51 q51 => ?_)
          obtain ⟨q51, rfl⟩ := q51
          refine fm_if_ne (⟨by omega, by omega⟩) 59 dX9_line_54 (by decide) (fun h54 => ?_) (fun h54 => ?_)
          · refine fm_ald0 dX9_line_59 ?_
            refine fm_ild4 dX9_line_60 ?_
            refine fm_ild2 dX9_line_62 ?_
            refine fm_if_ge (⟨by omega, by omega⟩) 71 dX9_line_63 (by decide) (fun h63 => ?_) (fun h63 => ?_)
            · refine fm_ild2 dX9_line_71 ?_
              refine fm_top (show y = b by omega) ?_
              refine fm_cvN dX9_line_72 cl_X9_106 (k_X9_lines hf (by omega) (by omega)) mb_0 rfl rfl (by decide) rfl rfl (Nat.le_of_ble_eq_true rfl) (fun s72 q72 => ?_)
              refine fm_ild3 dX9_line_75 ?_
              refine fm_if_ge (⟨by omega, by omega⟩) 88 dX9_line_76 (by decide) (fun h76 => ?_) (fun h76 => ?_)
              · refine fm_ald0 dX9_line_88 ?_
                refine gr_8_20 dX9_line_89 fd_X9_58 ?_
                refine fm_ild3 dX9_line_92 ?_
                refine fm_iald dX9_line_93 ma_17 (by omega) (by omega) ?_
                refine fm_iretI dX9_line_94 rfl ?_
                first
                  | (rw [if_pos (by omega)]; exact ⟨by omega, sam.rfl⟩)
                  | (rw [if_neg (by omega), if_pos (by omega)]; exact ⟨q72.2.1 0 0 (by omega) (by omega), q72.1.sam⟩)
                  | (rw [if_neg (by omega), if_neg (by omega)]; exact ⟨q72.2.2 i.toNat (by omega), q72.1.sam⟩)
              · refine fm_ald0 dX9_line_79 ?_
                refine gr_8_19 dX9_line_80 fd_X9_55 ?_
                refine fm_iconst dX9_line_83 ?_
                refine fm_iald dX9_line_84 ma_16 (by omega) (by omega) ?_
                refine fm_goto 94 dX9_line_85 (by decide) ?_
                refine fm_iretI dX9_line_94 rfl ?_
                first
                  | (rw [if_pos (by omega)]; exact ⟨by omega, sam.rfl⟩)
                  | (rw [if_neg (by omega), if_pos (by omega)]; exact ⟨q72.2.1 0 0 (by omega) (by omega), q72.1.sam⟩)
                  | (rw [if_neg (by omega), if_neg (by omega)]; exact ⟨q72.2.2 i.toNat (by omega), q72.1.sam⟩)
            · refine fm_bipush (by decide) dX9_line_66 ?_
              refine fm_top (show (6 : Int) = b by omega) ?_
              refine fm_goto 72 dX9_line_68 (by decide) ?_
              refine fm_cvN dX9_line_72 cl_X9_106 (k_X9_lines hf (by omega) (by omega)) mb_0 rfl rfl (by decide) rfl rfl (Nat.le_of_ble_eq_true rfl) (fun s72 q72 => ?_)
              refine fm_ild3 dX9_line_75 ?_
              refine fm_if_ge (⟨by omega, by omega⟩) 88 dX9_line_76 (by decide) (fun h76 => ?_) (fun h76 => ?_)
              · refine fm_ald0 dX9_line_88 ?_
                refine gr_8_20 dX9_line_89 fd_X9_58 ?_
                refine fm_ild3 dX9_line_92 ?_
                refine fm_iald dX9_line_93 ma_17 (by omega) (by omega) ?_
                refine fm_iretI dX9_line_94 rfl ?_
                first
                  | (rw [if_pos (by omega)]; exact ⟨by omega, sam.rfl⟩)
                  | (rw [if_neg (by omega), if_pos (by omega)]; exact ⟨q72.2.1 0 0 (by omega) (by omega), q72.1.sam⟩)
                  | (rw [if_neg (by omega), if_neg (by omega)]; exact ⟨q72.2.2 i.toNat (by omega), q72.1.sam⟩)
              · refine fm_ald0 dX9_line_79 ?_
                refine gr_8_19 dX9_line_80 fd_X9_55 ?_
                refine fm_iconst dX9_line_83 ?_
                refine fm_iald dX9_line_84 ma_16 (by omega) (by omega) ?_
                refine fm_goto 94 dX9_line_85 (by decide) ?_
                refine fm_iretI dX9_line_94 rfl ?_
                first
                  | (rw [if_pos (by omega)]; exact ⟨by omega, sam.rfl⟩)
                  | (rw [if_neg (by omega), if_pos (by omega)]; exact ⟨q72.2.1 0 0 (by omega) (by omega), q72.1.sam⟩)
                  | (rw [if_neg (by omega), if_neg (by omega)]; exact ⟨q72.2.2 i.toNat (by omega), q72.1.sam⟩)
          · refine fm_iconst dX9_line_57 ?_
            refine fm_iretI dX9_line_58 rfl ?_
            first
              | (rw [if_pos (by omega)]; exact ⟨by omega, sam.rfl⟩)
              | (rw [if_neg (by omega), if_pos (by omega)]; exact ⟨q72.2.1 0 0 (by omega) (by omega), q72.1.sam⟩)
              | (rw [if_neg (by omega), if_neg (by omega)]; exact ⟨q72.2.2 i.toNat (by omega), q72.1.sam⟩)
      · refine fm_iconst dX9_line_26 ?_
        refine fm_iretI dX9_line_27 rfl ?_
        first
          | (rw [if_pos (by omega)]; exact ⟨by omega, sam.rfl⟩)
          | (rw [if_neg (by omega), if_pos (by omega)]; exact ⟨q72.2.1 0 0 (by omega) (by omega), q72.1.sam⟩)
          | (rw [if_neg (by omega), if_neg (by omega)]; exact ⟨q72.2.2 i.toNat (by omega), q72.1.sam⟩)
  · refine fm_ald0 dX9_line_5 ?_
    refine fm_ild1 dX9_line_6 ?_
    refine fm_cvI dX9_line_7 cl_X9_81 (k_X9_isCopy ⟨by omega, by omega⟩ b0) mb_0 rfl rfl (by decide) rfl rfl (Nat.le_of_ble_eq_true rfl) (fun z7 s7 q7 => ?_)
    obtain ⟨q7, rfl⟩ := q7
    refine fm_if_eq (⟨by omega, by omega⟩) 26 dX9_line_10 (by decide) (fun h10 => ?_) (fun h10 => ?_)
    · refine fm_iconst dX9_line_26 ?_
      refine fm_iretI dX9_line_27 rfl ?_
      first
        | (rw [if_pos (by omega)]; exact ⟨by omega, sam.rfl⟩)
        | (rw [if_neg (by omega), if_pos (by omega)]; exact ⟨q72.2.1 0 0 (by omega) (by omega), q72.1.sam⟩)
        | (rw [if_neg (by omega), if_neg (by omega)]; exact ⟨q72.2.2 i.toNat (by omega), q72.1.sam⟩)
    · refine fm_ild2 dX9_line_13 ?_
      refine fm_iconst dX9_line_14 ?_
      refine fm_icmp_eq (⟨by omega, by omega⟩) (⟨by omega, by omega⟩) 28 dX9_line_15 (by decide) (fun h15 => ?_) (fun h15 => ?_)
      · refine fm_ild1 dX9_line_28 ?_
        refine fm_if_ge (⟨by omega, by omega⟩) 37 dX9_line_29 (by decide) (fun h29 => ?_) (fun h29 => ?_)
        · refine fm_ild1 dX9_line_37 ?_
          refine fm_top (show x = a by omega) ?_
          refine fm_ist4 rfl dX9_line_38 ?_
          refine fm_ild3 dX9_line_40 ?_
          refine fm_iconst dX9_line_41 ?_
          refine fm_ald0 dX9_line_42 ?_
          refine gr_8_1 dX9_line_43 fd_X9_7 ?_
          refine fm_ild4 dX9_line_46 ?_
          have sa := hf.2.1 a.toNat (by omega)
          refine fm_iald dX9_line_48 ma_1 (by omega) (by omega) ?_
          refine fm_iconst dX9_line_49 ?_
          refine fm_isub dX9_line_50 ?_
          refine fm_csI dX9_line_51 cl_X9_77 (k_X9_in ⟨by omega, by omega⟩ ⟨by omega, by omega⟩ ⟨by omega, by omega⟩) rfl rfl (by decide) rfl rfl (Nat.le_of_ble_eq_true rfl) (fun z51 s51 q51 => ?_)
          obtain ⟨q51, rfl⟩ := q51
          refine fm_if_ne (⟨by omega, by omega⟩) 59 dX9_line_54 (by decide) (fun h54 => ?_) (fun h54 => ?_)
          · refine fm_ald0 dX9_line_59 ?_
            refine fm_ild4 dX9_line_60 ?_
            refine fm_ild2 dX9_line_62 ?_
            refine fm_if_ge (⟨by omega, by omega⟩) 71 dX9_line_63 (by decide) (fun h63 => ?_) (fun h63 => ?_)
            · refine fm_ild2 dX9_line_71 ?_
              refine fm_top (show y = b by omega) ?_
              refine fm_cvN dX9_line_72 cl_X9_106 (k_X9_lines hf (by omega) (by omega)) mb_0 rfl rfl (by decide) rfl rfl (Nat.le_of_ble_eq_true rfl) (fun s72 q72 => ?_)
              refine fm_ild3 dX9_line_75 ?_
              refine fm_if_ge (⟨by omega, by omega⟩) 88 dX9_line_76 (by decide) (fun h76 => ?_) (fun h76 => ?_)
              · refine fm_ald0 dX9_line_88 ?_
                refine gr_8_20 dX9_line_89 fd_X9_58 ?_
                refine fm_ild3 dX9_line_92 ?_
                refine fm_iald dX9_line_93 ma_17 (by omega) (by omega) ?_
                refine fm_iretI dX9_line_94 rfl ?_
                first
                  | (rw [if_pos (by omega)]; exact ⟨by omega, sam.rfl⟩)
                  | (rw [if_neg (by omega), if_pos (by omega)]; exact ⟨q72.2.1 0 0 (by omega) (by omega), q72.1.sam⟩)
                  | (rw [if_neg (by omega), if_neg (by omega)]; exact ⟨q72.2.2 i.toNat (by omega), q72.1.sam⟩)
              · refine fm_ald0 dX9_line_79 ?_
                refine gr_8_19 dX9_line_80 fd_X9_55 ?_
                refine fm_iconst dX9_line_83 ?_
                refine fm_iald dX9_line_84 ma_16 (by omega) (by omega) ?_
                refine fm_goto 94 dX9_line_85 (by decide) ?_
                refine fm_iretI dX9_line_94 rfl ?_
                first
                  | (rw [if_pos (by omega)]; exact ⟨by omega, sam.rfl⟩)
                  | (rw [if_neg (by omega), if_pos (by omega)]; exact ⟨q72.2.1 0 0 (by omega) (by omega), q72.1.sam⟩)
                  | (rw [if_neg (by omega), if_neg (by omega)]; exact ⟨q72.2.2 i.toNat (by omega), q72.1.sam⟩)
            · refine fm_bipush (by decide) dX9_line_66 ?_
              refine fm_top (show (6 : Int) = b by omega) ?_
              refine fm_goto 72 dX9_line_68 (by decide) ?_
              refine fm_cvN dX9_line_72 cl_X9_106 (k_X9_lines hf (by omega) (by omega)) mb_0 rfl rfl (by decide) rfl rfl (Nat.le_of_ble_eq_true rfl) (fun s72 q72 => ?_)
              refine fm_ild3 dX9_line_75 ?_
              refine fm_if_ge (⟨by omega, by omega⟩) 88 dX9_line_76 (by decide) (fun h76 => ?_) (fun h76 => ?_)
              · refine fm_ald0 dX9_line_88 ?_
                refine gr_8_20 dX9_line_89 fd_X9_58 ?_
                refine fm_ild3 dX9_line_92 ?_
                refine fm_iald dX9_line_93 ma_17 (by omega) (by omega) ?_
                refine fm_iretI dX9_line_94 rfl ?_
                first
                  | (rw [if_pos (by omega)]; exact ⟨by omega, sam.rfl⟩)
                  | (rw [if_neg (by omega), if_pos (by omega)]; exact ⟨q72.2.1 0 0 (by omega) (by omega), q72.1.sam⟩)
                  | (rw [if_neg (by omega), if_neg (by omega)]; exact ⟨q72.2.2 i.toNat (by omega), q72.1.sam⟩)
              · refine fm_ald0 dX9_line_79 ?_
                refine gr_8_19 dX9_line_80 fd_X9_55 ?_
                refine fm_iconst dX9_line_83 ?_
                refine fm_iald dX9_line_84 ma_16 (by omega) (by omega) ?_
                refine fm_goto 94 dX9_line_85 (by decide) ?_
                refine fm_iretI dX9_line_94 rfl ?_
                first
                  | (rw [if_pos (by omega)]; exact ⟨by omega, sam.rfl⟩)
                  | (rw [if_neg (by omega), if_pos (by omega)]; exact ⟨q72.2.1 0 0 (by omega) (by omega), q72.1.sam⟩)
                  | (rw [if_neg (by omega), if_neg (by omega)]; exact ⟨q72.2.2 i.toNat (by omega), q72.1.sam⟩)
          · refine fm_iconst dX9_line_57 ?_
            refine fm_iretI dX9_line_58 rfl ?_
            first
              | (rw [if_pos (by omega)]; exact ⟨by omega, sam.rfl⟩)
              | (rw [if_neg (by omega), if_pos (by omega)]; exact ⟨q72.2.1 0 0 (by omega) (by omega), q72.1.sam⟩)
              | (rw [if_neg (by omega), if_neg (by omega)]; exact ⟨q72.2.2 i.toNat (by omega), q72.1.sam⟩)
        · refine fm_bipush (by decide) dX9_line_32 ?_
          refine fm_top (show (6 : Int) = a by omega) ?_
          refine fm_goto 38 dX9_line_34 (by decide) ?_
          refine fm_ist4 rfl dX9_line_38 ?_
          refine fm_ild3 dX9_line_40 ?_
          refine fm_iconst dX9_line_41 ?_
          refine fm_ald0 dX9_line_42 ?_
          refine gr_8_1 dX9_line_43 fd_X9_7 ?_
          refine fm_ild4 dX9_line_46 ?_
          have sa := hf.2.1 a.toNat (by omega)
          refine fm_iald dX9_line_48 ma_1 (by omega) (by omega) ?_
          refine fm_iconst dX9_line_49 ?_
          refine fm_isub dX9_line_50 ?_
          refine fm_csI dX9_line_51 cl_X9_77 (k_X9_in ⟨by omega, by omega⟩ ⟨by omega, by omega⟩ ⟨by omega, by omega⟩) rfl rfl (by decide) rfl rfl (Nat.le_of_ble_eq_true rfl) (fun z51 s51 q51 => ?_)
          obtain ⟨q51, rfl⟩ := q51
          refine fm_if_ne (⟨by omega, by omega⟩) 59 dX9_line_54 (by decide) (fun h54 => ?_) (fun h54 => ?_)
          · refine fm_ald0 dX9_line_59 ?_
            refine fm_ild4 dX9_line_60 ?_
            refine fm_ild2 dX9_line_62 ?_
            refine fm_if_ge (⟨by omega, by omega⟩) 71 dX9_line_63 (by decide) (fun h63 => ?_) (fun h63 => ?_)
            · refine fm_ild2 dX9_line_71 ?_
              refine fm_top (show y = b by omega) ?_
              refine fm_cvN dX9_line_72 cl_X9_106 (k_X9_lines hf (by omega) (by omega)) mb_0 rfl rfl (by decide) rfl rfl (Nat.le_of_ble_eq_true rfl) (fun s72 q72 => ?_)
              refine fm_ild3 dX9_line_75 ?_
              refine fm_if_ge (⟨by omega, by omega⟩) 88 dX9_line_76 (by decide) (fun h76 => ?_) (fun h76 => ?_)
              · refine fm_ald0 dX9_line_88 ?_
                refine gr_8_20 dX9_line_89 fd_X9_58 ?_
                refine fm_ild3 dX9_line_92 ?_
                refine fm_iald dX9_line_93 ma_17 (by omega) (by omega) ?_
                refine fm_iretI dX9_line_94 rfl ?_
                first
                  | (rw [if_pos (by omega)]; exact ⟨by omega, sam.rfl⟩)
                  | (rw [if_neg (by omega), if_pos (by omega)]; exact ⟨q72.2.1 0 0 (by omega) (by omega), q72.1.sam⟩)
                  | (rw [if_neg (by omega), if_neg (by omega)]; exact ⟨q72.2.2 i.toNat (by omega), q72.1.sam⟩)
              · refine fm_ald0 dX9_line_79 ?_
                refine gr_8_19 dX9_line_80 fd_X9_55 ?_
                refine fm_iconst dX9_line_83 ?_
                refine fm_iald dX9_line_84 ma_16 (by omega) (by omega) ?_
                refine fm_goto 94 dX9_line_85 (by decide) ?_
                refine fm_iretI dX9_line_94 rfl ?_
                first
                  | (rw [if_pos (by omega)]; exact ⟨by omega, sam.rfl⟩)
                  | (rw [if_neg (by omega), if_pos (by omega)]; exact ⟨q72.2.1 0 0 (by omega) (by omega), q72.1.sam⟩)
                  | (rw [if_neg (by omega), if_neg (by omega)]; exact ⟨q72.2.2 i.toNat (by omega), q72.1.sam⟩)
            · refine fm_bipush (by decide) dX9_line_66 ?_
              refine fm_top (show (6 : Int) = b by omega) ?_
              refine fm_goto 72 dX9_line_68 (by decide) ?_
              refine fm_cvN dX9_line_72 cl_X9_106 (k_X9_lines hf (by omega) (by omega)) mb_0 rfl rfl (by decide) rfl rfl (Nat.le_of_ble_eq_true rfl) (fun s72 q72 => ?_)
              refine fm_ild3 dX9_line_75 ?_
              refine fm_if_ge (⟨by omega, by omega⟩) 88 dX9_line_76 (by decide) (fun h76 => ?_) (fun h76 => ?_)
              · refine fm_ald0 dX9_line_88 ?_
                refine gr_8_20 dX9_line_89 fd_X9_58 ?_
                refine fm_ild3 dX9_line_92 ?_
                refine fm_iald dX9_line_93 ma_17 (by omega) (by omega) ?_
                refine fm_iretI dX9_line_94 rfl ?_
                first
                  | (rw [if_pos (by omega)]; exact ⟨by omega, sam.rfl⟩)
                  | (rw [if_neg (by omega), if_pos (by omega)]; exact ⟨q72.2.1 0 0 (by omega) (by omega), q72.1.sam⟩)
                  | (rw [if_neg (by omega), if_neg (by omega)]; exact ⟨q72.2.2 i.toNat (by omega), q72.1.sam⟩)
              · refine fm_ald0 dX9_line_79 ?_
                refine gr_8_19 dX9_line_80 fd_X9_55 ?_
                refine fm_iconst dX9_line_83 ?_
                refine fm_iald dX9_line_84 ma_16 (by omega) (by omega) ?_
                refine fm_goto 94 dX9_line_85 (by decide) ?_
                refine fm_iretI dX9_line_94 rfl ?_
                first
                  | (rw [if_pos (by omega)]; exact ⟨by omega, sam.rfl⟩)
                  | (rw [if_neg (by omega), if_pos (by omega)]; exact ⟨q72.2.1 0 0 (by omega) (by omega), q72.1.sam⟩)
                  | (rw [if_neg (by omega), if_neg (by omega)]; exact ⟨q72.2.2 i.toNat (by omega), q72.1.sam⟩)
          · refine fm_iconst dX9_line_57 ?_
            refine fm_iretI dX9_line_58 rfl ?_
            first
              | (rw [if_pos (by omega)]; exact ⟨by omega, sam.rfl⟩)
              | (rw [if_neg (by omega), if_pos (by omega)]; exact ⟨q72.2.1 0 0 (by omega) (by omega), q72.1.sam⟩)
              | (rw [if_neg (by omega), if_neg (by omega)]; exact ⟨q72.2.2 i.toNat (by omega), q72.1.sam⟩)
      · refine fm_ald0 dX9_line_18 ?_
        refine fm_ild2 dX9_line_19 ?_
        refine fm_cvI dX9_line_20 cl_X9_81 (k_X9_isCopy ⟨by omega, by omega⟩ b0) mb_0 rfl rfl (by decide) rfl rfl (Nat.le_of_ble_eq_true rfl) (fun z20 s20 q20 => ?_)
        obtain ⟨q20, rfl⟩ := q20
        refine fm_if_ne (⟨by omega, by omega⟩) 28 dX9_line_23 (by decide) (fun h23 => ?_) (fun h23 => ?_)
        · refine fm_ild1 dX9_line_28 ?_
          refine fm_if_ge (⟨by omega, by omega⟩) 37 dX9_line_29 (by decide) (fun h29 => ?_) (fun h29 => ?_)
          · refine fm_ild1 dX9_line_37 ?_
            refine fm_top (show x = a by omega) ?_
            refine fm_ist4 rfl dX9_line_38 ?_
            refine fm_ild3 dX9_line_40 ?_
            refine fm_iconst dX9_line_41 ?_
            refine fm_ald0 dX9_line_42 ?_
            refine gr_8_1 dX9_line_43 fd_X9_7 ?_
            refine fm_ild4 dX9_line_46 ?_
            have sa := hf.2.1 a.toNat (by omega)
            refine fm_iald dX9_line_48 ma_1 (by omega) (by omega) ?_
            refine fm_iconst dX9_line_49 ?_
            refine fm_isub dX9_line_50 ?_
            refine fm_csI dX9_line_51 cl_X9_77 (k_X9_in ⟨by omega, by omega⟩ ⟨by omega, by omega⟩ ⟨by omega, by omega⟩) rfl rfl (by decide) rfl rfl (Nat.le_of_ble_eq_true rfl) (fun z51 s51 q51 => ?_)
            obtain ⟨q51, rfl⟩ := q51
            refine fm_if_ne (⟨by omega, by omega⟩) 59 dX9_line_54 (by decide) (fun h54 => ?_) (fun h54 => ?_)
            · refine fm_ald0 dX9_line_59 ?_
              refine fm_ild4 dX9_line_60 ?_
              refine fm_ild2 dX9_line_62 ?_
              refine fm_if_ge (⟨by omega, by omega⟩) 71 dX9_line_63 (by decide) (fun h63 => ?_) (fun h63 => ?_)
              · refine fm_ild2 dX9_line_71 ?_
                refine fm_top (show y = b by omega) ?_
                refine fm_cvN dX9_line_72 cl_X9_106 (k_X9_lines hf (by omega) (by omega)) mb_0 rfl rfl (by decide) rfl rfl (Nat.le_of_ble_eq_true rfl) (fun s72 q72 => ?_)
                refine fm_ild3 dX9_line_75 ?_
                refine fm_if_ge (⟨by omega, by omega⟩) 88 dX9_line_76 (by decide) (fun h76 => ?_) (fun h76 => ?_)
                · refine fm_ald0 dX9_line_88 ?_
                  refine gr_8_20 dX9_line_89 fd_X9_58 ?_
                  refine fm_ild3 dX9_line_92 ?_
                  refine fm_iald dX9_line_93 ma_17 (by omega) (by omega) ?_
                  refine fm_iretI dX9_line_94 rfl ?_
                  first
                    | (rw [if_pos (by omega)]; exact ⟨by omega, sam.rfl⟩)
                    | (rw [if_neg (by omega), if_pos (by omega)]; exact ⟨q72.2.1 0 0 (by omega) (by omega), q72.1.sam⟩)
                    | (rw [if_neg (by omega), if_neg (by omega)]; exact ⟨q72.2.2 i.toNat (by omega), q72.1.sam⟩)
                · refine fm_ald0 dX9_line_79 ?_
                  refine gr_8_19 dX9_line_80 fd_X9_55 ?_
                  refine fm_iconst dX9_line_83 ?_
                  refine fm_iald dX9_line_84 ma_16 (by omega) (by omega) ?_
                  refine fm_goto 94 dX9_line_85 (by decide) ?_
                  refine fm_iretI dX9_line_94 rfl ?_
                  first
                    | (rw [if_pos (by omega)]; exact ⟨by omega, sam.rfl⟩)
                    | (rw [if_neg (by omega), if_pos (by omega)]; exact ⟨q72.2.1 0 0 (by omega) (by omega), q72.1.sam⟩)
                    | (rw [if_neg (by omega), if_neg (by omega)]; exact ⟨q72.2.2 i.toNat (by omega), q72.1.sam⟩)
              · refine fm_bipush (by decide) dX9_line_66 ?_
                refine fm_top (show (6 : Int) = b by omega) ?_
                refine fm_goto 72 dX9_line_68 (by decide) ?_
                refine fm_cvN dX9_line_72 cl_X9_106 (k_X9_lines hf (by omega) (by omega)) mb_0 rfl rfl (by decide) rfl rfl (Nat.le_of_ble_eq_true rfl) (fun s72 q72 => ?_)
                refine fm_ild3 dX9_line_75 ?_
                refine fm_if_ge (⟨by omega, by omega⟩) 88 dX9_line_76 (by decide) (fun h76 => ?_) (fun h76 => ?_)
                · refine fm_ald0 dX9_line_88 ?_
                  refine gr_8_20 dX9_line_89 fd_X9_58 ?_
                  refine fm_ild3 dX9_line_92 ?_
                  refine fm_iald dX9_line_93 ma_17 (by omega) (by omega) ?_
                  refine fm_iretI dX9_line_94 rfl ?_
                  first
                    | (rw [if_pos (by omega)]; exact ⟨by omega, sam.rfl⟩)
                    | (rw [if_neg (by omega), if_pos (by omega)]; exact ⟨q72.2.1 0 0 (by omega) (by omega), q72.1.sam⟩)
                    | (rw [if_neg (by omega), if_neg (by omega)]; exact ⟨q72.2.2 i.toNat (by omega), q72.1.sam⟩)
                · refine fm_ald0 dX9_line_79 ?_
                  refine gr_8_19 dX9_line_80 fd_X9_55 ?_
                  refine fm_iconst dX9_line_83 ?_
                  refine fm_iald dX9_line_84 ma_16 (by omega) (by omega) ?_
                  refine fm_goto 94 dX9_line_85 (by decide) ?_
                  refine fm_iretI dX9_line_94 rfl ?_
                  first
                    | (rw [if_pos (by omega)]; exact ⟨by omega, sam.rfl⟩)
                    | (rw [if_neg (by omega), if_pos (by omega)]; exact ⟨q72.2.1 0 0 (by omega) (by omega), q72.1.sam⟩)
                    | (rw [if_neg (by omega), if_neg (by omega)]; exact ⟨q72.2.2 i.toNat (by omega), q72.1.sam⟩)
            · refine fm_iconst dX9_line_57 ?_
              refine fm_iretI dX9_line_58 rfl ?_
              first
                | (rw [if_pos (by omega)]; exact ⟨by omega, sam.rfl⟩)
                | (rw [if_neg (by omega), if_pos (by omega)]; exact ⟨q72.2.1 0 0 (by omega) (by omega), q72.1.sam⟩)
                | (rw [if_neg (by omega), if_neg (by omega)]; exact ⟨q72.2.2 i.toNat (by omega), q72.1.sam⟩)
          · refine fm_bipush (by decide) dX9_line_32 ?_
            refine fm_top (show (6 : Int) = a by omega) ?_
            refine fm_goto 38 dX9_line_34 (by decide) ?_
            refine fm_ist4 rfl dX9_line_38 ?_
            refine fm_ild3 dX9_line_40 ?_
            refine fm_iconst dX9_line_41 ?_
            refine fm_ald0 dX9_line_42 ?_
            refine gr_8_1 dX9_line_43 fd_X9_7 ?_
            refine fm_ild4 dX9_line_46 ?_
            have sa := hf.2.1 a.toNat (by omega)
            refine fm_iald dX9_line_48 ma_1 (by omega) (by omega) ?_
            refine fm_iconst dX9_line_49 ?_
            refine fm_isub dX9_line_50 ?_
            refine fm_csI dX9_line_51 cl_X9_77 (k_X9_in ⟨by omega, by omega⟩ ⟨by omega, by omega⟩ ⟨by omega, by omega⟩) rfl rfl (by decide) rfl rfl (Nat.le_of_ble_eq_true rfl) (fun z51 s51 q51 => ?_)
            obtain ⟨q51, rfl⟩ := q51
            refine fm_if_ne (⟨by omega, by omega⟩) 59 dX9_line_54 (by decide) (fun h54 => ?_) (fun h54 => ?_)
            · refine fm_ald0 dX9_line_59 ?_
              refine fm_ild4 dX9_line_60 ?_
              refine fm_ild2 dX9_line_62 ?_
              refine fm_if_ge (⟨by omega, by omega⟩) 71 dX9_line_63 (by decide) (fun h63 => ?_) (fun h63 => ?_)
              · refine fm_ild2 dX9_line_71 ?_
                refine fm_top (show y = b by omega) ?_
                refine fm_cvN dX9_line_72 cl_X9_106 (k_X9_lines hf (by omega) (by omega)) mb_0 rfl rfl (by decide) rfl rfl (Nat.le_of_ble_eq_true rfl) (fun s72 q72 => ?_)
                refine fm_ild3 dX9_line_75 ?_
                refine fm_if_ge (⟨by omega, by omega⟩) 88 dX9_line_76 (by decide) (fun h76 => ?_) (fun h76 => ?_)
                · refine fm_ald0 dX9_line_88 ?_
                  refine gr_8_20 dX9_line_89 fd_X9_58 ?_
                  refine fm_ild3 dX9_line_92 ?_
                  refine fm_iald dX9_line_93 ma_17 (by omega) (by omega) ?_
                  refine fm_iretI dX9_line_94 rfl ?_
                  first
                    | (rw [if_pos (by omega)]; exact ⟨by omega, sam.rfl⟩)
                    | (rw [if_neg (by omega), if_pos (by omega)]; exact ⟨q72.2.1 0 0 (by omega) (by omega), q72.1.sam⟩)
                    | (rw [if_neg (by omega), if_neg (by omega)]; exact ⟨q72.2.2 i.toNat (by omega), q72.1.sam⟩)
                · refine fm_ald0 dX9_line_79 ?_
                  refine gr_8_19 dX9_line_80 fd_X9_55 ?_
                  refine fm_iconst dX9_line_83 ?_
                  refine fm_iald dX9_line_84 ma_16 (by omega) (by omega) ?_
                  refine fm_goto 94 dX9_line_85 (by decide) ?_
                  refine fm_iretI dX9_line_94 rfl ?_
                  first
                    | (rw [if_pos (by omega)]; exact ⟨by omega, sam.rfl⟩)
                    | (rw [if_neg (by omega), if_pos (by omega)]; exact ⟨q72.2.1 0 0 (by omega) (by omega), q72.1.sam⟩)
                    | (rw [if_neg (by omega), if_neg (by omega)]; exact ⟨q72.2.2 i.toNat (by omega), q72.1.sam⟩)
              · refine fm_bipush (by decide) dX9_line_66 ?_
                refine fm_top (show (6 : Int) = b by omega) ?_
                refine fm_goto 72 dX9_line_68 (by decide) ?_
                refine fm_cvN dX9_line_72 cl_X9_106 (k_X9_lines hf (by omega) (by omega)) mb_0 rfl rfl (by decide) rfl rfl (Nat.le_of_ble_eq_true rfl) (fun s72 q72 => ?_)
                refine fm_ild3 dX9_line_75 ?_
                refine fm_if_ge (⟨by omega, by omega⟩) 88 dX9_line_76 (by decide) (fun h76 => ?_) (fun h76 => ?_)
                · refine fm_ald0 dX9_line_88 ?_
                  refine gr_8_20 dX9_line_89 fd_X9_58 ?_
                  refine fm_ild3 dX9_line_92 ?_
                  refine fm_iald dX9_line_93 ma_17 (by omega) (by omega) ?_
                  refine fm_iretI dX9_line_94 rfl ?_
                  first
                    | (rw [if_pos (by omega)]; exact ⟨by omega, sam.rfl⟩)
                    | (rw [if_neg (by omega), if_pos (by omega)]; exact ⟨q72.2.1 0 0 (by omega) (by omega), q72.1.sam⟩)
                    | (rw [if_neg (by omega), if_neg (by omega)]; exact ⟨q72.2.2 i.toNat (by omega), q72.1.sam⟩)
                · refine fm_ald0 dX9_line_79 ?_
                  refine gr_8_19 dX9_line_80 fd_X9_55 ?_
                  refine fm_iconst dX9_line_83 ?_
                  refine fm_iald dX9_line_84 ma_16 (by omega) (by omega) ?_
                  refine fm_goto 94 dX9_line_85 (by decide) ?_
                  refine fm_iretI dX9_line_94 rfl ?_
                  first
                    | (rw [if_pos (by omega)]; exact ⟨by omega, sam.rfl⟩)
                    | (rw [if_neg (by omega), if_pos (by omega)]; exact ⟨q72.2.1 0 0 (by omega) (by omega), q72.1.sam⟩)
                    | (rw [if_neg (by omega), if_neg (by omega)]; exact ⟨q72.2.2 i.toNat (by omega), q72.1.sam⟩)
            · refine fm_iconst dX9_line_57 ?_
              refine fm_iretI dX9_line_58 rfl ?_
              first
                | (rw [if_pos (by omega)]; exact ⟨by omega, sam.rfl⟩)
                | (rw [if_neg (by omega), if_pos (by omega)]; exact ⟨q72.2.1 0 0 (by omega) (by omega), q72.1.sam⟩)
                | (rw [if_neg (by omega), if_neg (by omega)]; exact ⟨q72.2.2 i.toNat (by omega), q72.1.sam⟩)
        · refine fm_iconst dX9_line_26 ?_
          refine fm_iretI dX9_line_27 rfl ?_
          first
            | (rw [if_pos (by omega)]; exact ⟨by omega, sam.rfl⟩)
            | (rw [if_neg (by omega), if_pos (by omega)]; exact ⟨q72.2.1 0 0 (by omega) (by omega), q72.1.sam⟩)
            | (rw [if_neg (by omega), if_neg (by omega)]; exact ⟨q72.2.2 i.toNat (by omega), q72.1.sam⟩)
def fr5 (σ τ : fm_Mem) : Prop := ∀ k j, (k < 16 ∨ 18 < k) → τ k j = σ k j
theorem fr5.sam {a b : fm_Mem} (h : fr5 a b) : sam a b := fun k j hk => h k j (by omega)
theorem fr5.rfl {a : fm_Mem} : fr5 a a := fun _ _ _ => Eq.refl _
theorem fr5.up {a b : fm_Mem} {k j : Nat} {v : Int} (h : fr5 a b) (hk : 16 ≤ k ∧ k ≤ 18) : fr5 a (fm_up b k j v) := fun k2 j2 h1 => by
  rw [fm_up_ne (by omega)]
  exact h k2 j2 h1
set_option maxRecDepth 20000 in
set_option maxHeartbeats 4000000 in
theorem l_sa_in {ω : fm_O} {σ : fm_Mem} {Γ : fm_G} {P : Option Value → fm_Mem → Prop} (hi : fj σ) {c : Int} (hc : 0 ≤ c ∧ c < σ 0 0) (hK : ∀ (τ : fm_Mem) (o2 o3 o4 : Option Value), fr5 σ τ → (∀ c' p' : Nat, (c' : Int) < σ 0 0 → (p' : Int) < σ 1 6 → (c' : Int) ≤ c → τ 18 (40 * c' + p') = std σ c' p') → fm_W km ω Γ (cX9_standAll, RX9, fm_rm 2, 5, none) P τ 114 [some (fm_r ω 0), some (fm_I c), o2, o3, o4] []) : ∀ (d : Nat) (p : Int) (τ : fm_Mem) (o3 o4 : Option Value), 0 ≤ p → p + d = σ 1 6 → fr5 σ τ → (∀ k : Nat, (k : Int) < σ 1 6 → τ 17 k = lpart σ 6 c k) → (∀ c' p' : Nat, (c' : Int) < σ 0 0 → (p' : Int) < σ 1 6 → ((c' : Int) < c ∨ ((c' : Int) = c ∧ (p' : Int) < p)) → τ 18 (40 * c' + p') = std σ c' p') → fm_W km ω Γ (cX9_standAll, RX9, fm_rm 2, 5, none) P τ 19 [some (fm_r ω 0), some (fm_I c), some (fm_I p), o3, o4] [] := by
  have hf := hi.fi
  have b0 := hf.1
  have b6 := hf.2.1 6 (by omega)
  have r0 := hf.2.2.2.2.2.2.2.1 0
  have r1 := hf.2.2.2.2.2.2.2.2.1
  intro d
  induction d with
  | zero =>
    intro p τ o3 o4 h0 hp hr hq ht
    have e6 : τ 1 6 = σ 1 6 := hr 1 6 (by omega)
    refine fm_ild2 dX9_standAll_19 ?_
    refine fm_ald0 dX9_standAll_20 ?_
    refine gr_8_1 dX9_standAll_21 fd_X9_7 ?_
    refine fm_bipush (by decide) dX9_standAll_24 ?_
    refine fm_iald dX9_standAll_26 ma_1 (by omega) (by omega) ?_
    rw [show (6 : Int).toNat = 6 from rfl]
    rw [e6]
    refine fm_icmp_ge (⟨by omega, by omega⟩) (⟨by omega, by omega⟩) 114 dX9_standAll_27 (by decide) (fun h27 => ?_) (fun h27 => ?_)
    · exact hK τ _ _ _ hr (fun c' p' h1 h2 h3 => ht c' p' h1 h2 (by omega))
    · exfalso; omega
  | succ d ih =>
    intro p τ o3 o4 h0 hp hr hq ht
    have e6 : τ 1 6 = σ 1 6 := hr 1 6 (by omega)
    have eq : τ 17 p.toNat = lpart σ 6 c p.toNat := hq _ (by omega)
    have bq : lpart σ 6 c p.toNat = -4 ∨ (0 ≤ lpart σ 6 c p.toNat ∧ lpart σ 6 c p.toNat < (σ 1 c.toNat).toNat) := lpt_b (show p.toNat < (σ 1 (6 : Int).toNat).toNat by rw [show (6 : Int).toNat = 6 from rfl]; omega)
    have bc := hf.2.1 c.toNat (by omega)
    have m1 := hf.2.2.2.1 (240 + p.toNat)
    have m2 := hf.2.2.2.1 (40 * c.toNat + (lpart σ 6 c p.toNat).toNat)
    have x1 : τ 2 (240 + p).toNat = σ 2 (240 + p.toNat) := by rw [hr 2 _ (by omega)]; congr 1 <;> omega
    have x2 : 0 ≤ lpart σ 6 c p.toNat → τ 2 (40 * c + lpart σ 6 c p.toNat).toNat = σ 2 (40 * c.toNat + (lpart σ 6 c p.toNat).toNat) := fun q => by rw [hr 2 _ (by omega)]; congr 1 <;> omega
    have x3 : τ 6 0 = σ 6 0 := hr 6 0 (by omega)
    have es : std σ c.toNat p.toNat = if 0 ≤ lpart σ 6 c p.toNat ∧ -σ 6 0 ≤ σ 2 (240 + p.toNat) - σ 2 (40 * c.toNat + (lpart σ 6 c p.toNat).toNat) ∧ σ 2 (240 + p.toNat) - σ 2 (40 * c.toNat + (lpart σ 6 c p.toNat).toNat) ≤ σ 6 0 then lpart σ 6 c p.toNat else -4 := by
      unfold std
      rw [show ((c.toNat : Nat) : Int) = c by omega]
    have J : ∀ v : Int, v = std σ c.toNat p.toNat → ∀ o3 o4 : Option Value, fm_W km ω Γ (cX9_standAll, RX9, fm_rm 2, 5, none) P τ 107 [some (fm_r ω 0), some (fm_I c), some (fm_I p), o3, o4] [fm_I v, fm_I (40 * c + p), fm_r ω 18] := by
      intro v hv o3 o4
      refine fm_iast dX9_standAll_107 ma_18 (by omega) (by omega) ?_
      refine fm_inc2 rfl dX9_standAll_108 ?_
      refine fm_goto 19 dX9_standAll_111 (by decide) ?_
      refine ih (p + 1) _ _ _ (by omega) (by omega) (hr.up (by omega)) (fun k hk => by rw [fm_up_ne (by omega)]; exact hq k hk) (fun c' p' h1 h2 h3 => ?_)
      by_cases e : 40 * c' + p' = (40 * c + p).toNat
      · rw [e, fm_up_eq, hv, show c.toNat = c' by omega, show p.toNat = p' by omega]
      · rw [fm_up_nj e]; exact ht c' p' h1 h2 (by omega)
    refine fm_ild2 dX9_standAll_19 ?_
    refine fm_ald0 dX9_standAll_20 ?_
    refine gr_8_1 dX9_standAll_21 fd_X9_7 ?_
    refine fm_bipush (by decide) dX9_standAll_24 ?_
    refine fm_iald dX9_standAll_26 ma_1 (by omega) (by omega) ?_
    rw [show (6 : Int).toNat = 6 from rfl]
    rw [e6]
    refine fm_icmp_ge (⟨by omega, by omega⟩) (⟨by omega, by omega⟩) 114 dX9_standAll_27 (by decide) (fun h27 => ?_) (fun h27 => ?_)
    · exfalso; omega
    · refine fm_ald0 dX9_standAll_30 ?_
      refine gr_8_20 dX9_standAll_31 fd_X9_58 ?_
      refine fm_ild2 dX9_standAll_34 ?_
      refine fm_iald dX9_standAll_35 ma_17 (by omega) (by omega) ?_
      rw [eq]
      refine fm_ist3 rfl dX9_standAll_36 ?_
      refine fm_ild3 dX9_standAll_37 ?_
      refine fm_if_ge (⟨by omega, by omega⟩) 46 dX9_standAll_38 (by decide) (fun h38 => ?_) (fun h38 => ?_)
      · refine fm_ald0 dX9_standAll_46 ?_
        refine gr_8_2 dX9_standAll_47 fd_X9_13 ?_
        refine fm_sipush (by decide) dX9_standAll_50 ?_
        refine fm_ild2 dX9_standAll_53 ?_
        refine fm_iadd dX9_standAll_54 ?_
        refine fm_iald dX9_standAll_55 ma_2 (by omega) (by omega) ?_
        rw [x1]
        refine fm_ald0 dX9_standAll_56 ?_
        refine gr_8_2 dX9_standAll_57 fd_X9_13 ?_
        refine fm_bipush (by decide) dX9_standAll_60 ?_
        refine fm_ild1 dX9_standAll_62 ?_
        refine fm_imul dX9_standAll_63 ?_
        refine fm_ild3 dX9_standAll_64 ?_
        refine fm_iadd dX9_standAll_65 ?_
        refine fm_iald dX9_standAll_66 ma_2 (by omega) (by omega) ?_
        rw [x2 (by omega)]
        refine fm_isub dX9_standAll_67 ?_
        refine fm_ist4 rfl dX9_standAll_68 ?_
        refine fm_ald0 dX9_standAll_70 ?_
        refine gr_8_21 dX9_standAll_71 fd_X9_61 ?_
        refine fm_bipush (by decide) dX9_standAll_74 ?_
        refine fm_ild1 dX9_standAll_76 ?_
        refine fm_imul dX9_standAll_77 ?_
        refine fm_ild2 dX9_standAll_78 ?_
        refine fm_iadd dX9_standAll_79 ?_
        refine fm_ild4 dX9_standAll_80 ?_
        refine fm_ald0 dX9_standAll_82 ?_
        refine gr_8_6 dX9_standAll_83 fd_X9_25 ?_
        refine fm_iconst dX9_standAll_86 ?_
        refine fm_iald dX9_standAll_87 ma_6 (by omega) (by omega) ?_
        rw [show (0 : Int).toNat = 0 from rfl, x3]
        refine fm_ineg dX9_standAll_88 ?_
        refine fm_ald0 dX9_standAll_89 ?_
        refine gr_8_6 dX9_standAll_90 fd_X9_25 ?_
        refine fm_iconst dX9_standAll_93 ?_
        refine fm_iald dX9_standAll_94 ma_6 (by omega) (by omega) ?_
        try rw [show (0 : Int).toNat = 0 from rfl, x3]
        refine fm_csI dX9_standAll_95 cl_X9_77 (k_X9_in ⟨by omega, by omega⟩ ⟨by omega, by omega⟩ ⟨by omega, by omega⟩) rfl rfl (by decide) rfl rfl (Nat.le_of_ble_eq_true rfl) (fun z95 s95 q95 => ?_)
        obtain ⟨q95, rfl⟩ := q95
        refine fm_if_eq (⟨by omega, by omega⟩) 105 dX9_standAll_98 (by decide) (fun h98 => ?_) (fun h98 => ?_)
        · refine fm_bipush (by decide) dX9_standAll_105 ?_
          refine J _ ?_ _ _
          rw [es]
          first
            | (rw [if_pos (by omega)]; done)
            | (rw [if_neg (by omega)]; done)
        · refine fm_ild3 dX9_standAll_101 ?_
          refine fm_goto 107 dX9_standAll_102 (by decide) ?_
          refine J _ ?_ _ _
          rw [es]
          first
            | (rw [if_pos (by omega)]; done)
            | (rw [if_neg (by omega)]; done)
      · refine fm_bipush (by decide) dX9_standAll_41 ?_
        refine fm_goto 68 dX9_standAll_43 (by decide) ?_
        refine fm_ist4 rfl dX9_standAll_68 ?_
        refine fm_ald0 dX9_standAll_70 ?_
        refine gr_8_21 dX9_standAll_71 fd_X9_61 ?_
        refine fm_bipush (by decide) dX9_standAll_74 ?_
        refine fm_ild1 dX9_standAll_76 ?_
        refine fm_imul dX9_standAll_77 ?_
        refine fm_ild2 dX9_standAll_78 ?_
        refine fm_iadd dX9_standAll_79 ?_
        refine fm_ild4 dX9_standAll_80 ?_
        refine fm_ald0 dX9_standAll_82 ?_
        refine gr_8_6 dX9_standAll_83 fd_X9_25 ?_
        refine fm_iconst dX9_standAll_86 ?_
        refine fm_iald dX9_standAll_87 ma_6 (by omega) (by omega) ?_
        rw [show (0 : Int).toNat = 0 from rfl, x3]
        refine fm_ineg dX9_standAll_88 ?_
        refine fm_ald0 dX9_standAll_89 ?_
        refine gr_8_6 dX9_standAll_90 fd_X9_25 ?_
        refine fm_iconst dX9_standAll_93 ?_
        refine fm_iald dX9_standAll_94 ma_6 (by omega) (by omega) ?_
        try rw [show (0 : Int).toNat = 0 from rfl, x3]
        refine fm_csI dX9_standAll_95 cl_X9_77 (k_X9_in ⟨by omega, by omega⟩ ⟨by omega, by omega⟩ ⟨by omega, by omega⟩) rfl rfl (by decide) rfl rfl (Nat.le_of_ble_eq_true rfl) (fun z95 s95 q95 => ?_)
        obtain ⟨q95, rfl⟩ := q95
        refine fm_if_eq (⟨by omega, by omega⟩) 105 dX9_standAll_98 (by decide) (fun h98 => ?_) (fun h98 => ?_)
        · refine fm_bipush (by decide) dX9_standAll_105 ?_
          refine J _ ?_ _ _
          rw [es]
          first
            | (rw [if_pos (by omega)]; done)
            | (rw [if_neg (by omega)]; done)
        · refine fm_ild3 dX9_standAll_101 ?_
          refine fm_goto 107 dX9_standAll_102 (by decide) ?_
          refine J _ ?_ _ _
          rw [es]
          first
            | (rw [if_pos (by omega)]; done)
            | (rw [if_neg (by omega)]; done)
set_option maxRecDepth 20000 in
set_option maxHeartbeats 4000000 in
theorem l_sa_out {ω : fm_O} {σ : fm_Mem} {Γ : fm_G} {P : Option Value → fm_Mem → Prop} (hi : fj σ) (hK : ∀ (τ : fm_Mem), fr5 σ τ → (∀ c' p' : Nat, (c' : Int) < σ 0 0 → (p' : Int) < σ 1 6 → True → τ 18 (40 * c' + p') = std σ c' p') → P none τ) : ∀ (d : Nat) (c : Int) (τ : fm_Mem) (o2 o3 o4 : Option Value), 0 ≤ c → c + d = σ 0 0 → fr5 σ τ → (∀ c' p' : Nat, (c' : Int) < σ 0 0 → (p' : Int) < σ 1 6 → (c' : Int) < c → τ 18 (40 * c' + p') = std σ c' p') → fm_W km ω Γ (cX9_standAll, RX9, fm_rm 2, 5, none) P τ 2 [some (fm_r ω 0), some (fm_I c), o2, o3, o4] [] := by
  have hf := hi.fi
  have b0 := hf.1
  have b6 := hf.2.1 6 (by omega)
  intro d
  induction d with
  | zero =>
    intro c τ o2 o3 o4 h0 hc hr ht
    have e0 : τ 0 0 = σ 0 0 := hr 0 0 (by omega)
    refine fm_ild1 dX9_standAll_2 ?_
    refine fm_ald0 dX9_standAll_3 ?_
    refine gi_8_0 dX9_standAll_4 fd_X9_73 ?_
    rw [e0]
    refine fm_icmp_ge (⟨by omega, by omega⟩) (⟨by omega, by omega⟩) 120 dX9_standAll_7 (by decide) (fun h7 => ?_) (fun h7 => ?_)
    · exact fm_vret dX9_standAll_120 rfl (hK τ hr (fun c' p' h1 h2 _ => ht c' p' h1 h2 (by omega)))
    · exfalso; omega
  | succ d ih =>
    intro c τ o2 o3 o4 h0 hc hr ht
    have e0 : τ 0 0 = σ 0 0 := hr 0 0 (by omega)
    have hft : fi τ := (fj_sam hi hr.sam).fi
    have hK2 : ∀ (τ : fm_Mem) (o2 o3 o4 : Option Value), fr5 σ τ → (∀ c' p' : Nat, (c' : Int) < σ 0 0 → (p' : Int) < σ 1 6 → (c' : Int) ≤ c → τ 18 (40 * c' + p') = std σ c' p') → fm_W km ω Γ (cX9_standAll, RX9, fm_rm 2, 5, none) P τ 114 [some (fm_r ω 0), some (fm_I c), o2, o3, o4] [] := by
      intro τ o2 o3 o4 hr ht
      refine fm_inc1 rfl dX9_standAll_114 ?_
      refine fm_goto 2 dX9_standAll_117 (by decide) ?_
      exact ih (c + 1) τ _ _ _ (by omega) (by omega) hr (fun c' p' h1 h2 h3 => ht c' p' h1 h2 (by omega))
    refine fm_ild1 dX9_standAll_2 ?_
    refine fm_ald0 dX9_standAll_3 ?_
    refine gi_8_0 dX9_standAll_4 fd_X9_73 ?_
    rw [e0]
    refine fm_icmp_ge (⟨by omega, by omega⟩) (⟨by omega, by omega⟩) 120 dX9_standAll_7 (by decide) (fun h7 => ?_) (fun h7 => ?_)
    · exfalso; omega
    · refine fm_ald0 dX9_standAll_10 ?_
      refine fm_bipush (by decide) dX9_standAll_11 ?_
      refine fm_ild1 dX9_standAll_13 ?_
      refine fm_cvN dX9_standAll_14 cl_X9_106 (k_X9_lines hft (by omega) (by omega)) mb_0 rfl rfl (by decide) rfl rfl (Nat.le_of_ble_eq_true rfl) (fun s14 q14 => ?_)
      refine fm_iconst dX9_standAll_17 ?_
      refine fm_ist2 rfl dX9_standAll_18 ?_
      refine l_sa_in hi (by omega) hK2 (σ 1 6).toNat 0 s14 _ _ (by omega) (by omega) (fun k j h1 => by rw [q14.1 k j (by omega) (by omega)]; exact hr k j h1) (fun k hk => ?_) (fun c' p' h1 h2 h3 => ?_)
      · rw [q14.2.2 k (by rw [show (6 : Int).toNat = 6 from rfl, hr 1 6 (by omega)]; omega)]
        exact lpart_sam hr.sam 6 c k
      · rw [q14.1 18 _ (by omega) (by omega)]; exact ht c' p' h1 h2 (by omega)
set_option maxRecDepth 20000 in
set_option maxHeartbeats 4000000 in
theorem k_X9_standAll {ω : fm_O} {σ : fm_Mem} (hi : fj σ) : fm_Met km ω yX9_standAll cX9_standAll 5 none (fm_rm 2) [fm_r ω 0] σ (fm_pN fun σ' => fr5 σ σ' ∧ ∀ c p : Nat, (c : Int) < σ 0 0 → (p : Int) < σ 1 6 → σ' 18 (40 * c + p) = std σ c p) := by
  refine fm_start (by decide) rfl (Nat.le_of_ble_eq_true rfl) [some (fm_r ω 0), none, none, none, none] rfl (fun Γ => ?_)
  have b0 := hi.fi.1
  refine fm_iconst dX9_standAll_0 ?_
  refine fm_ist1 rfl dX9_standAll_1 ?_
  exact l_sa_out hi (fun τ hr ht => ⟨rfl, hr, fun c p h1 h2 => ht c p h1 h2 trivial⟩) (σ 0 0).toNat 0 σ _ _ _ (by omega) (by omega) fr5.rfl (fun c p h1 h2 h3 => by omega)
set_option maxRecDepth 20000 in
set_option maxHeartbeats 4000000 in
theorem k_X9_stands {ω : fm_O} {σ : fm_Mem} (hi : fj σ) {c p : Int} (rc : fm_R c) (rp : fm_R p) : fm_Met km ω yX9_stands cX9_stands 3 (some .int) (fm_rm 3) [fm_r ω 0, fm_I c, fm_I p] σ (fm_pI fun z σ' => z = sp_stands σ c p ∧ sam σ σ') := by
  refine fm_start (by decide) rfl (Nat.le_of_ble_eq_true rfl) [some (fm_r ω 0), some (fm_I c), some (fm_I p)] rfl (fun Γ => ?_)
  have hf := hi.fi
  have b0 := hf.1
  have b6 := hf.2.1 6 (by omega)
  refine fm_ald0 dX9_stands_0 ?_
  refine fm_ild1 dX9_stands_1 ?_
  refine fm_cvI dX9_stands_2 cl_X9_81 (k_X9_isCopy ⟨by omega, by omega⟩ b0) mb_0 rfl rfl (by decide) rfl rfl (Nat.le_of_ble_eq_true rfl) (fun z2 s2 q2 => ?_)
  obtain ⟨q2, rfl⟩ := q2
  refine fm_if_eq (⟨by omega, by omega⟩) 16 dX9_stands_5 (by decide) (fun h5 => ?_) (fun h5 => ?_)
  · refine fm_iconst dX9_stands_16 ?_
    refine fm_iretI dX9_stands_17 rfl ?_
    unfold sp_stands
    first
      | (rw [if_pos (by omega)]; exact ⟨by omega, sam.rfl⟩)
      | (rw [if_neg (by omega), ← q19.2 c.toNat p.toNat (by omega) (by omega), show 40 * c.toNat + p.toNat = (40 * c + p).toNat by omega]; exact ⟨rfl, q19.1.sam⟩)
  · refine fm_ald0 dX9_stands_8 ?_
    refine fm_ild2 dX9_stands_9 ?_
    refine fm_cvI dX9_stands_10 cl_X9_109 (k_X9_isPlace ⟨by omega, by omega⟩ hf) mb_0 rfl rfl (by decide) rfl rfl (Nat.le_of_ble_eq_true rfl) (fun z10 s10 q10 => ?_)
    obtain ⟨q10, rfl⟩ := q10
    refine fm_if_ne (⟨by omega, by omega⟩) 18 dX9_stands_13 (by decide) (fun h13 => ?_) (fun h13 => ?_)
    · refine fm_ald0 dX9_stands_18 ?_
      refine fm_cvN dX9_stands_19 cl_X9_112 (k_X9_standAll hi) mb_0 rfl rfl (by decide) rfl rfl (Nat.le_of_ble_eq_true rfl) (fun s19 q19 => ?_)
      refine fm_ald0 dX9_stands_22 ?_
      refine gr_8_21 dX9_stands_23 fd_X9_61 ?_
      refine fm_bipush (by decide) dX9_stands_26 ?_
      refine fm_ild1 dX9_stands_28 ?_
      refine fm_imul dX9_stands_29 ?_
      refine fm_ild2 dX9_stands_30 ?_
      refine fm_iadd dX9_stands_31 ?_
      refine fm_iald dX9_stands_32 ma_18 (by omega) (by omega) ?_
      refine fm_iretI dX9_stands_33 rfl ?_
      unfold sp_stands
      first
        | (rw [if_pos (by omega)]; exact ⟨by omega, sam.rfl⟩)
        | (rw [if_neg (by omega), ← q19.2 c.toNat p.toNat (by omega) (by omega), show 40 * c.toNat + p.toNat = (40 * c + p).toNat by omega]; exact ⟨rfl, q19.1.sam⟩)
    · refine fm_iconst dX9_stands_16 ?_
      refine fm_iretI dX9_stands_17 rfl ?_
      unfold sp_stands
      first
        | (rw [if_pos (by omega)]; exact ⟨by omega, sam.rfl⟩)
        | (rw [if_neg (by omega), ← q19.2 c.toNat p.toNat (by omega) (by omega), show 40 * c.toNat + p.toNat = (40 * c + p).toNat by omega]; exact ⟨rfl, q19.1.sam⟩)
theorem row_f {μ σ : fm_Mem} (hf : fi μ) (h : rel μ σ) {c : Int} (hc : c = -1 ∨ isC μ c) {k : Nat} (hk : k = if c = -1 then 3 else 33 + c.toNat) : fm_ia kc k 40 ∧ (k < 57 ∧ k ≠ 8) ∧ (∀ i, i < 40 → 0 ≤ σ k i ∧ σ k i ≤ 63) ∧ ∀ i, i < 40 → σ k i = lf μ (lnx c) i := by
  have hw := rel.cw hf h
  have b0 := hf.1
  have cl := lnx_c c
  by_cases e : c = -1
  · rw [if_pos e] at hk
    subst hk
    refine ⟨ia_3, by omega, fun i hi => (hw.2.2.2.2.1 i hi).1, fun i hi => ?_⟩
    rw [(h.2.1.2 i hi).1, cl.1 (by omega)]
    rfl
  · rw [if_neg e] at hk
    subst hk
    refine ⟨ia_rm (by omega), by omega, fun i hi => (hw.2.2.2.1 c.toNat (by omega) i hi).1, fun i hi => ?_⟩
    rw [((h.1.2 c.toNat (by omega)).2 i hi).1, cl.2 (by omega)]
    rfl
theorem row_n {μ σ : fm_Mem} (hf : fi μ) (h : rel μ σ) {c : Int} (hc : c = -1 ∨ isC μ c) : (if c = -1 then σ 2 2 else σ (27 + c.toNat) 3) = μ 1 (lnx c).toNat := by
  have b0 := hf.1
  have cl := lnx_c c
  by_cases e : c = -1
  · rw [if_pos e, h.2.1.1, cl.1 (by omega)]
    rfl
  · rw [if_neg e, (h.1.2 c.toNat (by omega)).1, cl.2 (by omega)]
set_option maxRecDepth 20000 in
set_option maxHeartbeats 4000000 in
theorem k_X8_line {ω : fm_O} {σ : fm_Mem} {μ : fm_Mem} (hi : fj μ) (h : rel μ σ) {x y i : Int} (rx : fm_R x) (ry : fm_R y) (ri : fm_R i) : fm_Met kc ω yX8_line cX8_line 4 (some .int) (fm_rm 4) [fm_r ω 0, fm_I x, fm_I y, fm_I i] σ (fm_pI fun z σ' => z = sp_line μ x y i ∧ rel μ σ') := by
  refine fm_start (by decide) rfl (Nat.le_of_ble_eq_true rfl) [some (fm_r ω 0), some (fm_I x), some (fm_I y), some (fm_I i)] rfl (fun Γ => ?_)
  have hf := hi.fi
  have hw := rel.cw hf h
  have e0 := h.1.1
  have b0 := hf.1
  have ca := lnx_c x
  have cb := lnx_c y
  refine fm_ald0 dX8_line_0 ?_
  refine fm_ild1 dX8_line_1 ?_
  refine fm_cvI dX8_line_2 cl_X8_128 (k_X8_isRow ⟨by omega, by omega⟩ hw) ob_0 rfl rfl (by decide) rfl rfl (Nat.le_of_ble_eq_true rfl) (fun z2 s2 q2 => ?_)
  obtain ⟨q2, rfl⟩ := q2
  refine fm_if_eq (⟨by omega, by omega⟩) 30 dX8_line_5 (by decide) (fun h5 => ?_) (fun h5 => ?_)
  · refine fm_iconst dX8_line_30 ?_
    refine fm_iretI dX8_line_31 rfl ?_
    unfold sp_line
    first
      | (rw [if_pos (by omega)]; exact ⟨by omega, h⟩)
      | (rw [if_neg (by omega), if_pos (by omega)]
         refine ⟨?_, h.frm q56.1.frm⟩
         have e := q56.2.1 0 0 (by omega) (by omega)
         rw [lct_cong (fun k hk => f1 k (by omega)) (fun k hk => f2 k (by omega))] at e
         exact e)
      | (rw [if_neg (by omega), if_neg (by omega)]
         refine ⟨?_, h.frm q56.1.frm⟩
         have e := q56.2.2 i.toNat (by omega)
         rw [lpt_cong (fun k hk => f1 k (by omega)) (fun k hk => f2 k (by omega))] at e
         exact e)
  · refine fm_ald0 dX8_line_8 ?_
    refine fm_ild2 dX8_line_9 ?_
    refine fm_cvI dX8_line_10 cl_X8_128 (k_X8_isRow ⟨by omega, by omega⟩ hw) ob_0 rfl rfl (by decide) rfl rfl (Nat.le_of_ble_eq_true rfl) (fun z10 s10 q10 => ?_)
    obtain ⟨q10, rfl⟩ := q10
    refine fm_if_eq (⟨by omega, by omega⟩) 30 dX8_line_13 (by decide) (fun h13 => ?_) (fun h13 => ?_)
    · refine fm_iconst dX8_line_30 ?_
      refine fm_iretI dX8_line_31 rfl ?_
      unfold sp_line
      first
        | (rw [if_pos (by omega)]; exact ⟨by omega, h⟩)
        | (rw [if_neg (by omega), if_pos (by omega)]
           refine ⟨?_, h.frm q56.1.frm⟩
           have e := q56.2.1 0 0 (by omega) (by omega)
           rw [lct_cong (fun k hk => f1 k (by omega)) (fun k hk => f2 k (by omega))] at e
           exact e)
        | (rw [if_neg (by omega), if_neg (by omega)]
           refine ⟨?_, h.frm q56.1.frm⟩
           have e := q56.2.2 i.toNat (by omega)
           rw [lpt_cong (fun k hk => f1 k (by omega)) (fun k hk => f2 k (by omega))] at e
           exact e)
    · refine fm_ild3 dX8_line_16 ?_
      refine fm_iconst dX8_line_17 ?_
      refine fm_icmp_lt (⟨by omega, by omega⟩) (⟨by omega, by omega⟩) 30 dX8_line_18 (by decide) (fun h18 => ?_) (fun h18 => ?_)
      · refine fm_iconst dX8_line_30 ?_
        refine fm_iretI dX8_line_31 rfl ?_
        unfold sp_line
        first
          | (rw [if_pos (by omega)]; exact ⟨by omega, h⟩)
          | (rw [if_neg (by omega), if_pos (by omega)]
             refine ⟨?_, h.frm q56.1.frm⟩
             have e := q56.2.1 0 0 (by omega) (by omega)
             rw [lct_cong (fun k hk => f1 k (by omega)) (fun k hk => f2 k (by omega))] at e
             exact e)
          | (rw [if_neg (by omega), if_neg (by omega)]
             refine ⟨?_, h.frm q56.1.frm⟩
             have e := q56.2.2 i.toNat (by omega)
             rw [lpt_cong (fun k hk => f1 k (by omega)) (fun k hk => f2 k (by omega))] at e
             exact e)
      · refine fm_ild3 dX8_line_21 ?_
        refine fm_ald0 dX8_line_22 ?_
        refine fm_ild1 dX8_line_23 ?_
        have n1 := row_n hf h (c := x) (by omega)
        have sa := hf.2.1 (lnx x).toNat (by omega)
        refine fm_cvI dX8_line_24 cl_X8_131 (k_X8_sizeOfRow (by omega)) ob_0 rfl rfl (by decide) rfl rfl (Nat.le_of_ble_eq_true rfl) (fun z24 s24 q24 => ?_)
        obtain ⟨rfl, rfl⟩ := q24
        rw [n1]
        refine fm_icmp_lt (⟨by omega, by omega⟩) (⟨by omega, by omega⟩) 32 dX8_line_27 (by decide) (fun h27 => ?_) (fun h27 => ?_)
        · refine fm_ald0 dX8_line_32 ?_
          refine gr_7_4 dX8_line_33 fd_X8_29 ?_
          refine fm_ald0 dX8_line_36 ?_
          refine fm_ild1 dX8_line_37 ?_
          have n2 := row_n hf h (c := y) (by omega)
          have sb := hf.2.1 (lnx y).toNat (by omega)
          refine fm_cvR dX8_line_38 cl_X8_134 (k_X8_marksOfRow (by omega)) ob_0 rfl rfl (by decide) rfl rfl (Nat.le_of_ble_eq_true rfl) (fun z38 s38 q38 => ?_)
          obtain ⟨q38, rfl⟩ := q38
          obtain ⟨g1, g2, g3, f1⟩ := row_f hf h (c := x) (by omega) q38
          refine fm_ald0 dX8_line_41 ?_
          refine fm_ild1 dX8_line_42 ?_
          refine fm_cvI dX8_line_43 cl_X8_131 (k_X8_sizeOfRow (by omega)) ob_0 rfl rfl (by decide) rfl rfl (Nat.le_of_ble_eq_true rfl) (fun z43 s43 q43 => ?_)
          obtain ⟨rfl, rfl⟩ := q43
          refine fm_ald0 dX8_line_46 ?_
          refine fm_ild2 dX8_line_47 ?_
          refine fm_cvR dX8_line_48 cl_X8_134 (k_X8_marksOfRow (by omega)) ob_0 rfl rfl (by decide) rfl rfl (Nat.le_of_ble_eq_true rfl) (fun z48 s48 q48 => ?_)
          obtain ⟨q48, rfl⟩ := q48
          obtain ⟨g4, g5, g6, f2⟩ := row_f hf h (c := y) (by omega) q48
          refine fm_ald0 dX8_line_51 ?_
          refine fm_ild2 dX8_line_52 ?_
          refine fm_cvI dX8_line_53 cl_X8_131 (k_X8_sizeOfRow (by omega)) ob_0 rfl rfl (by decide) rfl rfl (Nat.le_of_ble_eq_true rfl) (fun z53 s53 q53 => ?_)
          obtain ⟨rfl, rfl⟩ := q53
          refine fm_cvN dX8_line_56 cl_X8_138 (k_X1_lineUp g1 g4 g2 g5 g3 g6 (by omega) (by omega)) ob_6 rfl rfl (by decide) rfl rfl (Nat.le_of_ble_eq_true rfl) (fun s56 q56 => ?_)
          rw [n1, n2] at q56
          refine fm_ild3 dX8_line_59 ?_
          refine fm_iconst dX8_line_60 ?_
          refine fm_icmp_ne (⟨by omega, by omega⟩) (⟨by omega, by omega⟩) 74 dX8_line_61 (by decide) (fun h61 => ?_) (fun h61 => ?_)
          · refine fm_ald0 dX8_line_74 ?_
            refine gr_7_4 dX8_line_75 fd_X8_29 ?_
            refine gr_1_1 dX8_line_78 fd_X8_146 ?_
            refine fm_ild3 dX8_line_81 ?_
            refine fm_iald dX8_line_82 ia_8 (by omega) (by omega) ?_
            refine fm_iretI dX8_line_83 rfl ?_
            unfold sp_line
            first
              | (rw [if_pos (by omega)]; exact ⟨by omega, h⟩)
              | (rw [if_neg (by omega), if_pos (by omega)]
                 refine ⟨?_, h.frm q56.1.frm⟩
                 have e := q56.2.1 0 0 (by omega) (by omega)
                 rw [lct_cong (fun k hk => f1 k (by omega)) (fun k hk => f2 k (by omega))] at e
                 exact e)
              | (rw [if_neg (by omega), if_neg (by omega)]
                 refine ⟨?_, h.frm q56.1.frm⟩
                 have e := q56.2.2 i.toNat (by omega)
                 rw [lpt_cong (fun k hk => f1 k (by omega)) (fun k hk => f2 k (by omega))] at e
                 exact e)
          · refine fm_ald0 dX8_line_64 ?_
            refine gr_7_4 dX8_line_65 fd_X8_29 ?_
            refine fm_cvI dX8_line_68 cl_X8_142 (k_X1_cost) ob_6 rfl rfl (by decide) rfl rfl (Nat.le_of_ble_eq_true rfl) (fun z68 s68 q68 => ?_)
            obtain ⟨rfl, rfl⟩ := q68
            refine fm_goto 83 dX8_line_71 (by decide) ?_
            refine fm_iretI dX8_line_83 rfl ?_
            unfold sp_line
            first
              | (rw [if_pos (by omega)]; exact ⟨by omega, h⟩)
              | (rw [if_neg (by omega), if_pos (by omega)]
                 refine ⟨?_, h.frm q56.1.frm⟩
                 have e := q56.2.1 0 0 (by omega) (by omega)
                 rw [lct_cong (fun k hk => f1 k (by omega)) (fun k hk => f2 k (by omega))] at e
                 exact e)
              | (rw [if_neg (by omega), if_neg (by omega)]
                 refine ⟨?_, h.frm q56.1.frm⟩
                 have e := q56.2.2 i.toNat (by omega)
                 rw [lpt_cong (fun k hk => f1 k (by omega)) (fun k hk => f2 k (by omega))] at e
                 exact e)
        · refine fm_iconst dX8_line_30 ?_
          refine fm_iretI dX8_line_31 rfl ?_
          unfold sp_line
          first
            | (rw [if_pos (by omega)]; exact ⟨by omega, h⟩)
            | (rw [if_neg (by omega), if_pos (by omega)]
               refine ⟨?_, h.frm q56.1.frm⟩
               have e := q56.2.1 0 0 (by omega) (by omega)
               rw [lct_cong (fun k hk => f1 k (by omega)) (fun k hk => f2 k (by omega))] at e
               exact e)
            | (rw [if_neg (by omega), if_neg (by omega)]
               refine ⟨?_, h.frm q56.1.frm⟩
               have e := q56.2.2 i.toNat (by omega)
               rw [lpt_cong (fun k hk => f1 k (by omega)) (fun k hk => f2 k (by omega))] at e
               exact e)
def fr6 (c : Nat) (σ τ : fm_Mem) : Prop := ∀ k x, (k < 63 ∨ 104 ≤ k) → k ≠ 8 → k ≠ 57 + c → τ k x = σ k x
theorem fr6.frm {c : Nat} {a b : fm_Mem} (h : fr6 c a b) : frm a b := fun k j hk => by
  unfold scr at hk
  exact h k j (by omega) (by omega) (by omega)
theorem fr6.up {c : Nat} {a b : fm_Mem} {j : Nat} {v : Int} (h : fr6 c a b) : fr6 c a (fm_up b (57 + c) j v) := fun k2 j2 h1 h2 h3 => by
  rw [fm_up_ne (by omega)]
  exact h k2 j2 h1 h2 h3
set_option maxRecDepth 20000 in
set_option maxHeartbeats 4000000 in
theorem l_fs {ω : fm_O} {σ μ : fm_Mem} {Γ : fm_G} (hi : fj μ) (h : rel μ σ) {c : Int} (hc : 0 ≤ c ∧ c < 6) : ∀ (d : Nat) (p : Int) (τ : fm_Mem) (o4 o5 : Option Value), 0 ≤ p → p + d = μ 1 6 → fr6 c.toNat σ τ → (∀ k : Nat, (k : Int) < μ 1 6 → τ 8 k = lpart μ 6 c k) → (∀ k : Nat, (k : Int) < p → τ (57 + c.toNat) k = std μ c.toNat k) → fm_W kc ω Γ (cX5_findStanding, RX5, fm_rm 4, 6, none) (fm_pN fun σ' => fr6 c.toNat σ σ' ∧ ∀ p : Nat, (p : Int) < μ 1 6 → σ' (57 + c.toNat) p = std μ c.toNat p) τ 38 [some (fm_r ω 9), some (fm_I c), some (fm_r ω (27 + c.toNat)), some (fm_I p), o4, o5] [] := by
  have hf := hi.fi
  have b6 := hf.2.1 6 (by omega)
  have r0 := hf.2.2.2.2.2.2.2.1 0
  have r1 := hf.2.2.2.2.2.2.2.2.1
  intro d
  induction d with
  | zero =>
    intro p τ o4 o5 h0 hp hr hq ht
    have e6 : τ 2 2 = μ 1 6 := by rw [hr 2 2 (by omega) (by omega) (by omega)]; exact h.2.1.1
    refine fm_ild3 dX5_findStanding_38 ?_
    refine fm_ald0 dX5_findStanding_39 ?_
    refine gr_5_0 dX5_findStanding_40 fd_X5_23 ?_
    refine gi_4_2 dX5_findStanding_43 fd_X5_43 ?_
    rw [e6]
    refine fm_icmp_ge (⟨by omega, by omega⟩) (⟨by omega, by omega⟩) 129 dX5_findStanding_46 (by decide) (fun h46 => ?_) (fun h46 => ?_)
    · exact fm_vretN dX5_findStanding_129 rfl ⟨hr, fun k hk => ht k (by omega)⟩
    · exfalso; omega
  | succ d ih =>
    intro p τ o4 o5 h0 hp hr hq ht
    have e6 : τ 2 2 = μ 1 6 := by rw [hr 2 2 (by omega) (by omega) (by omega)]; exact h.2.1.1
    have eq : τ 8 p.toNat = lpart μ 6 c p.toNat := hq _ (by omega)
    have bq : lpart μ 6 c p.toNat = -4 ∨ (0 ≤ lpart μ 6 c p.toNat ∧ lpart μ 6 c p.toNat < (μ 1 c.toNat).toNat) := lpt_b (show p.toNat < (μ 1 (6 : Int).toNat).toNat by rw [show (6 : Int).toNat = 6 from rfl]; omega)
    have bc := hf.2.1 c.toNat (by omega)
    have m1 := hf.2.2.2.1 (240 + p.toNat)
    have m2 := hf.2.2.2.1 (40 * c.toNat + (lpart μ 6 c p.toNat).toNat)
    have x1 : τ 3 p.toNat = μ 2 (240 + p.toNat) := by rw [hr 3 _ (by omega) (by omega) (by omega)]; exact (h.2.1.2 p.toNat (by omega)).1
    have x2 : 0 ≤ lpart μ 6 c p.toNat → τ (33 + c.toNat) (lpart μ 6 c p.toNat).toNat = μ 2 (40 * c.toNat + (lpart μ 6 c p.toNat).toNat) := fun q => by rw [hr _ _ (by omega) (by omega) (by omega)]; exact ((h.1.2 c.toNat (by omega)).2 _ (by omega)).1
    have x3 : τ 5 0 = μ 6 0 := by rw [hr 5 _ (by omega) (by omega) (by omega)]; exact h.2.2.1 0 (by omega)
    have es : std μ c.toNat p.toNat = if 0 ≤ lpart μ 6 c p.toNat ∧ -μ 6 0 ≤ μ 2 (240 + p.toNat) - μ 2 (40 * c.toNat + (lpart μ 6 c p.toNat).toNat) ∧ μ 2 (240 + p.toNat) - μ 2 (40 * c.toNat + (lpart μ 6 c p.toNat).toNat) ≤ μ 6 0 then lpart μ 6 c p.toNat else -4 := by
      unfold std
      rw [show ((c.toNat : Nat) : Int) = c by omega]
    have J : ∀ v : Int, v = std μ c.toNat p.toNat → ∀ o4 o5 : Option Value, fm_W kc ω Γ (cX5_findStanding, RX5, fm_rm 4, 6, none) (fm_pN fun σ' => fr6 c.toNat σ σ' ∧ ∀ p : Nat, (p : Int) < μ 1 6 → σ' (57 + c.toNat) p = std μ c.toNat p) τ 122 [some (fm_r ω 9), some (fm_I c), some (fm_r ω (27 + c.toNat)), some (fm_I p), o4, o5] [fm_I v, fm_I p, fm_r ω (57 + c.toNat)] := by
      intro v hv o4 o5
      refine fm_iast dX5_findStanding_122 (ia_sd (by omega)) (by omega) (by omega) ?_
      refine fm_inc3 rfl dX5_findStanding_123 ?_
      refine fm_goto 38 dX5_findStanding_126 (by decide) ?_
      refine ih (p + 1) _ _ _ (by omega) (by omega) hr.up (fun k hk => by rw [fm_up_ne (by omega)]; exact hq k hk) (fun k hk => ?_)
      by_cases e : k = p.toNat
      · rw [e, fm_up_eq, hv]
      · rw [fm_up_nj e]; exact ht k (by omega)
    refine fm_ild3 dX5_findStanding_38 ?_
    refine fm_ald0 dX5_findStanding_39 ?_
    refine gr_5_0 dX5_findStanding_40 fd_X5_23 ?_
    refine gi_4_2 dX5_findStanding_43 fd_X5_43 ?_
    rw [e6]
    refine fm_icmp_ge (⟨by omega, by omega⟩) (⟨by omega, by omega⟩) 129 dX5_findStanding_46 (by decide) (fun h46 => ?_) (fun h46 => ?_)
    · exfalso; omega
    · refine fm_ald0 dX5_findStanding_49 ?_
      refine gr_5_3 dX5_findStanding_50 fd_X5_34 ?_
      refine gr_1_1 dX5_findStanding_53 fd_X5_57 ?_
      refine fm_ild3 dX5_findStanding_56 ?_
      refine fm_iald dX5_findStanding_57 ia_8 (by omega) (by omega) ?_
      rw [eq]
      refine fm_ist4 rfl dX5_findStanding_58 ?_
      refine fm_ild4 dX5_findStanding_60 ?_
      refine fm_bipush (by decide) dX5_findStanding_62 ?_
      refine fm_icmp_eq (⟨by omega, by omega⟩) (⟨by omega, by omega⟩) 100 dX5_findStanding_64 (by decide) (fun h64 => ?_) (fun h64 => ?_)
      · refine fm_iconst dX5_findStanding_100 ?_
        refine fm_ist5 rfl dX5_findStanding_101 ?_
        refine fm_ald0 dX5_findStanding_103 ?_
        refine gr_5_4 dX5_findStanding_104 fd_X5_11 ?_
        refine fm_ild1 dX5_findStanding_107 ?_
        refine ar_10 (by omega) (by omega) dX5_findStanding_108 ?_
        refine fm_ild3 dX5_findStanding_109 ?_
        refine fm_ild5 dX5_findStanding_110 ?_
        refine fm_if_eq (⟨by omega, by omega⟩) 120 dX5_findStanding_112 (by decide) (fun h112 => ?_) (fun h112 => ?_)
        · refine fm_bipush (by decide) dX5_findStanding_120 ?_
          refine J _ ?_ _ _
          rw [es]
          first
            | (rw [if_pos (by (try split at h93) <;> omega)]; done)
            | (rw [if_neg (by (try split at h93) <;> omega)]; done)
        · refine fm_ild4 dX5_findStanding_115 ?_
          refine fm_goto 122 dX5_findStanding_117 (by decide) ?_
          refine J _ ?_ _ _
          rw [es]
          first
            | (rw [if_pos (by (try split at h93) <;> omega)]; done)
            | (rw [if_neg (by (try split at h93) <;> omega)]; done)
      · refine fm_ald0 dX5_findStanding_67 ?_
        refine gr_5_0 dX5_findStanding_68 fd_X5_23 ?_
        refine gr_4_0 dX5_findStanding_71 fd_X5_38 ?_
        refine fm_ild3 dX5_findStanding_74 ?_
        refine fm_iald dX5_findStanding_75 ia_3 (by omega) (by omega) ?_
        rw [x1]
        refine fm_ald2 dX5_findStanding_76 ?_
        refine gr_3_0 (by omega) dX5_findStanding_77 fd_X5_47 ?_
        refine fm_ild4 dX5_findStanding_80 ?_
        refine fm_iald dX5_findStanding_82 (ia_rm (by omega)) (by omega) (by omega) ?_
        rw [x2 (by omega)]
        refine fm_isub dX5_findStanding_83 ?_
        refine fm_abs dX5_findStanding_84 cl_X5_60 (by decide) (Nat.le_of_ble_eq_true rfl) (⟨by omega, by omega⟩) ?_
        refine fm_ald0 dX5_findStanding_87 ?_
        refine gr_5_2 dX5_findStanding_88 fd_X5_31 ?_
        refine fm_iconst dX5_findStanding_91 ?_
        refine fm_iald dX5_findStanding_92 ia_5 (by omega) (by omega) ?_
        rw [show (0 : Int).toNat = 0 from rfl, x3]
        refine fm_icmp_gt (by constructor <;> split <;> omega) (⟨by omega, by omega⟩) 100 dX5_findStanding_93 (by decide) (fun h93 => ?_) (fun h93 => ?_)
        · refine fm_iconst dX5_findStanding_100 ?_
          refine fm_ist5 rfl dX5_findStanding_101 ?_
          refine fm_ald0 dX5_findStanding_103 ?_
          refine gr_5_4 dX5_findStanding_104 fd_X5_11 ?_
          refine fm_ild1 dX5_findStanding_107 ?_
          refine ar_10 (by omega) (by omega) dX5_findStanding_108 ?_
          refine fm_ild3 dX5_findStanding_109 ?_
          refine fm_ild5 dX5_findStanding_110 ?_
          refine fm_if_eq (⟨by omega, by omega⟩) 120 dX5_findStanding_112 (by decide) (fun h112 => ?_) (fun h112 => ?_)
          · refine fm_bipush (by decide) dX5_findStanding_120 ?_
            refine J _ ?_ _ _
            rw [es]
            first
              | (rw [if_pos (by (try split at h93) <;> omega)]; done)
              | (rw [if_neg (by (try split at h93) <;> omega)]; done)
          · refine fm_ild4 dX5_findStanding_115 ?_
            refine fm_goto 122 dX5_findStanding_117 (by decide) ?_
            refine J _ ?_ _ _
            rw [es]
            first
              | (rw [if_pos (by (try split at h93) <;> omega)]; done)
              | (rw [if_neg (by (try split at h93) <;> omega)]; done)
        · refine fm_iconst dX5_findStanding_96 ?_
          refine fm_goto 101 dX5_findStanding_97 (by decide) ?_
          refine fm_ist5 rfl dX5_findStanding_101 ?_
          refine fm_ald0 dX5_findStanding_103 ?_
          refine gr_5_4 dX5_findStanding_104 fd_X5_11 ?_
          refine fm_ild1 dX5_findStanding_107 ?_
          refine ar_10 (by omega) (by omega) dX5_findStanding_108 ?_
          refine fm_ild3 dX5_findStanding_109 ?_
          refine fm_ild5 dX5_findStanding_110 ?_
          refine fm_if_eq (⟨by omega, by omega⟩) 120 dX5_findStanding_112 (by decide) (fun h112 => ?_) (fun h112 => ?_)
          · refine fm_bipush (by decide) dX5_findStanding_120 ?_
            refine J _ ?_ _ _
            rw [es]
            first
              | (rw [if_pos (by (try split at h93) <;> omega)]; done)
              | (rw [if_neg (by (try split at h93) <;> omega)]; done)
          · refine fm_ild4 dX5_findStanding_115 ?_
            refine fm_goto 122 dX5_findStanding_117 (by decide) ?_
            refine J _ ?_ _ _
            rw [es]
            first
              | (rw [if_pos (by (try split at h93) <;> omega)]; done)
              | (rw [if_neg (by (try split at h93) <;> omega)]; done)
set_option maxRecDepth 20000 in
set_option maxHeartbeats 4000000 in
theorem k_X5_findStanding {ω : fm_O} {σ : fm_Mem} {μ : fm_Mem} (hi : fj μ) (h : rel μ σ) {c : Int} (hc : 0 ≤ c ∧ c < 6) : fm_Met kc ω yX5_findStanding cX5_findStanding 6 none (fm_rm 4) [fm_r ω 9, fm_I c] σ (fm_pN fun σ' => fr6 c.toNat σ σ' ∧ ∀ p : Nat, (p : Int) < μ 1 6 → σ' (57 + c.toNat) p = std μ c.toNat p) := by
  refine fm_start (by decide) rfl (Nat.le_of_ble_eq_true rfl) [some (fm_r ω 9), some (fm_I c), none, none, none, none] rfl (fun Γ => ?_)
  have hf := hi.fi
  have hw := rel.cw hf h
  have b6 := hf.2.1 6 (by omega)
  have e6 := h.2.1.1
  have bc := hf.2.1 c.toNat (by omega)
  have ec := (h.1.2 c.toNat (by omega)).1
  refine fm_ald0 dX5_findStanding_0 ?_
  refine gr_5_1 dX5_findStanding_1 fd_X5_27 ?_
  refine fm_ild1 dX5_findStanding_4 ?_
  refine ar_1 (by omega) (by omega) dX5_findStanding_5 ?_
  refine fm_ast2 rfl dX5_findStanding_6 ?_
  refine fm_ald0 dX5_findStanding_7 ?_
  refine gr_5_3 dX5_findStanding_8 fd_X5_34 ?_
  refine fm_ald0 dX5_findStanding_11 ?_
  refine gr_5_0 dX5_findStanding_12 fd_X5_23 ?_
  refine gr_4_0 dX5_findStanding_15 fd_X5_38 ?_
  refine fm_ald0 dX5_findStanding_18 ?_
  refine gr_5_0 dX5_findStanding_19 fd_X5_23 ?_
  refine gi_4_2 dX5_findStanding_22 fd_X5_43 ?_
  refine fm_ald2 dX5_findStanding_25 ?_
  refine gr_3_0 (by omega) dX5_findStanding_26 fd_X5_47 ?_
  refine fm_ald2 dX5_findStanding_29 ?_
  refine gi_3_3 (by omega) dX5_findStanding_30 fd_X5_50 ?_
  refine fm_cvN dX5_findStanding_33 cl_X5_51 (k_X1_lineUp ia_3 (ia_rm (by omega)) (by omega) (by omega) (fun i hi => (hw.2.2.2.2.1 i hi).1) (fun i hi => (hw.2.2.2.1 c.toNat (by omega) i hi).1) (by omega) (by omega)) ob_6 rfl rfl (by decide) rfl rfl (Nat.le_of_ble_eq_true rfl) (fun s33 q33 => ?_)
  refine fm_iconst dX5_findStanding_36 ?_
  refine fm_ist3 rfl dX5_findStanding_37 ?_
  refine l_fs hi h hc (μ 1 6).toNat 0 s33 _ _ (by omega) (by omega) (fun k x h1 h2 h3 => q33.1 k x h1 h2) (fun k hk => ?_) (fun k hk => by omega)
  rw [q33.2.2 k (by omega), lpt_cong (f' := lf μ 6) (g' := lf μ c) (fun k hk => (h.2.1.2 k (by omega)).1) (fun k hk => ((h.1.2 c.toNat (by omega)).2 k (by omega)).1), e6, ec]
  rfl
set_option maxRecDepth 20000 in
set_option maxHeartbeats 4000000 in
theorem k_X8_stands {ω : fm_O} {σ : fm_Mem} {μ : fm_Mem} (hi : fj μ) (h : rel μ σ) {c p : Int} (rc : fm_R c) (rp : fm_R p) : fm_Met kc ω yX8_stands cX8_stands 3 (some .int) (fm_rm 5) [fm_r ω 0, fm_I c, fm_I p] σ (fm_pI fun z σ' => z = sp_stands μ c p ∧ rel μ σ') := by
  refine fm_start (by decide) rfl (Nat.le_of_ble_eq_true rfl) [some (fm_r ω 0), some (fm_I c), some (fm_I p)] rfl (fun Γ => ?_)
  have hf := hi.fi
  have hw := rel.cw hf h
  have e0 := h.1.1
  have b0 := hf.1
  have b6 := hf.2.1 6 (by omega)
  have e6 := h.2.1.1
  refine fm_ald0 dX8_stands_0 ?_
  refine fm_ild1 dX8_stands_1 ?_
  refine fm_cvI dX8_stands_2 cl_X8_68 (k_X8_isCopy ⟨by omega, by omega⟩ hw) ob_0 rfl rfl (by decide) rfl rfl (Nat.le_of_ble_eq_true rfl) (fun z2 s2 q2 => ?_)
  obtain ⟨q2, rfl⟩ := q2
  refine fm_if_eq (⟨by omega, by omega⟩) 19 dX8_stands_5 (by decide) (fun h5 => ?_) (fun h5 => ?_)
  · refine fm_iconst dX8_stands_19 ?_
    refine fm_iretI dX8_stands_20 rfl ?_
    unfold sp_stands
    first
      | (rw [if_pos (by omega)]; exact ⟨by omega, h⟩)
      | (rw [if_neg (by omega), ← q26.2 p.toNat (by omega)]; exact ⟨rfl, h.frm q26.1.frm⟩)
  · refine fm_ald0 dX8_stands_8 ?_
    refine gr_7_2 dX8_stands_9 fd_X8_18 ?_
    refine fm_ild2 dX8_stands_12 ?_
    refine fm_cvI dX8_stands_13 cl_X8_149 (k_X4_has ⟨by omega, by omega⟩ hw) ob_2 rfl rfl (by decide) rfl rfl (Nat.le_of_ble_eq_true rfl) (fun z13 s13 q13 => ?_)
    obtain ⟨q13, rfl⟩ := q13
    refine fm_if_ne (⟨by omega, by omega⟩) 21 dX8_stands_16 (by decide) (fun h16 => ?_) (fun h16 => ?_)
    · refine fm_ald0 dX8_stands_21 ?_
      refine gr_7_5 dX8_stands_22 fd_X8_60 ?_
      refine fm_ild1 dX8_stands_25 ?_
      refine fm_cvN dX8_stands_26 cl_X8_152 (k_X5_findStanding hi h (by omega)) ob_9 rfl rfl (by decide) rfl rfl (Nat.le_of_ble_eq_true rfl) (fun s26 q26 => ?_)
      refine fm_ald0 dX8_stands_29 ?_
      refine gr_7_5 dX8_stands_30 fd_X8_60 ?_
      refine gr_5_4 dX8_stands_33 fd_X8_156 ?_
      refine fm_ild1 dX8_stands_36 ?_
      refine ar_10 (by omega) (by omega) dX8_stands_37 ?_
      refine fm_ild2 dX8_stands_38 ?_
      refine fm_iald dX8_stands_39 (ia_sd (by omega)) (by omega) (by omega) ?_
      refine fm_iretI dX8_stands_40 rfl ?_
      unfold sp_stands
      first
        | (rw [if_pos (by omega)]; exact ⟨by omega, h⟩)
        | (rw [if_neg (by omega), ← q26.2 p.toNat (by omega)]; exact ⟨rfl, h.frm q26.1.frm⟩)
    · refine fm_iconst dX8_stands_19 ?_
      refine fm_iretI dX8_stands_20 rfl ?_
      unfold sp_stands
      first
        | (rw [if_pos (by omega)]; exact ⟨by omega, h⟩)
        | (rw [if_neg (by omega), ← q26.2 p.toNat (by omega)]; exact ⟨rfl, h.frm q26.1.frm⟩)
