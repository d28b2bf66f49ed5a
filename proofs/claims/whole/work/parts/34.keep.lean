/-! the film's bounds stay under every call -/
theorem fs_copy {μ : fm_Mem} (h : fj μ) : fj (sp_copy μ).2 := by
  have hb := h.fi.1
  unfold sp_copy
  split
  · exact h
  · refine fj_up h ?_ (by omega) (by omega)
    simp [flo, fhi]; omega
theorem fs_frame {μ : fm_Mem} (h : fj μ) (c m v cam : Int) : fj (sp_frame μ c m v cam).2 := by
  have hb := h.fi.1
  unfold sp_frame
  split
  · exact h
  · rename_i q
    split
    · exact h
    · rename_i q2
      have q3 := Classical.not_not.mp q
      obtain ⟨a1, a2, a3, a4⟩ := q3
      have hn := h.fi.2.1 c.toNat (by omega)
      exact fj_lay h a1 (by omega) a2 a3 a4
theorem fs_frames {μ : fm_Mem} (h : fj μ) (c n : Int) (v : Int64) : fj (sp_frames μ c n v).2 := by
  have hb := h.fi.1
  unfold sp_frames
  split
  · exact h
  · rename_i q
    split
    · exact h
    · rename_i q2
      have q3 := Classical.not_not.mp q
      obtain ⟨a1, a2, a3⟩ := q3
      exact lyn_fj h a1 (by omega) a3 _ (Nat.le_refl _)
theorem fs_wear {μ : fm_Mem} (h : fj μ) (c i v : Int) : fj (sp_wear μ c i v).2 := by
  have hb := h.fi.1
  unfold sp_wear
  split
  · exact h
  · rename_i q
    have q3 := Classical.not_not.mp q
    obtain ⟨⟨a1, a2, a3, a4⟩, a5⟩ := q3
    have hn := h.fi.2.1 c.toNat (by omega)
    exact fj_kp h (by omega) a5
theorem fs_place {μ : fm_Mem} (h : fj μ) (m s : Int) : fj (sp_place μ m s).2 := by
  have hb := h.fi.2.1 6 (by omega)
  unfold sp_place
  split
  · exact h
  · rename_i q
    split
    · exact h
    · rename_i q2
      have q3 := Classical.not_not.mp q
      obtain ⟨a1, a2⟩ := q3
      refine fj_up (fj_up (fj_up h ?_ (by omega) (by omega)) ?_ (by omega) (by omega)) ?_ (by omega) (by omega)
      · simp [flo, fhi]; omega
      · simp [flo, fhi]; omega
      · simp [flo, fhi]; omega
theorem fs_noScript {μ : fm_Mem} (h : fj μ) : fj (sp_noScript μ).2 := by
  unfold sp_noScript
  refine fj_up h ?_ (by omega) (by omega)
  simp [flo, fhi]
theorem fs_rule {μ : fm_Mem} (h : fj μ) (w v : Int) : fj (sp_rule μ w v).2 := by
  unfold sp_rule
  by_cases q : inR w 0 3 ∧ inR v 0 (if w = 0 then 5 else 100)
  case neg => rw [if_pos q]; exact h
  case pos =>
    rw [if_neg (fun z => z q)]
    obtain ⟨a1, a2⟩ := q
    refine fj_up h ?_ (by omega) (by omega)
    by_cases e : w = 0
    · subst e
      simp [inR] at a2
      simp [flo, fhi]; omega
    · rw [if_neg e] at a2
      have e2 : w.toNat ≠ 0 := by omega
      simp [flo, fhi, e2]; omega
theorem fs_note {μ : fm_Mem} (h : fj μ) (c a b t : Int) : fj (sp_note μ c a b t).2 := by
  have hb := h.fi.1
  have h7 := h.fi.2.2.2.2.2.2.2.2.2.1
  unfold sp_note
  split
  · exact h
  · rename_i q
    split
    · exact h
    · rename_i q2
      have q3 := Classical.not_not.mp q
      obtain ⟨⟨a1, a2, a3, a4⟩, ⟨b1, b2, b3, b4⟩, a5, a6⟩ := q3
      have hn := h.fi.2.1 c.toNat (by omega)
      refine fj_up (fj_up (fj_up (fj_up (fj_up h ?_ (by omega) (by omega)) ?_ (by omega) (by omega)) ?_ (by omega) (by omega)) ?_ (by omega) (by omega)) ?_ (by omega) (by omega)
      · simp [flo, fhi]; omega
      · simp [flo, fhi]; omega
      · simp [flo, fhi]; omega
      · simp [flo, fhi]; omega
      · simp [flo, fhi]; omega
theorem fs_cue {μ : fm_Mem} (h : fj μ) (a b v : Int) : fj (sp_cue μ a b v).2 := by
  have h7 := h.fi.2.2.2.2.2.2.2.2.2.2.2.1
  unfold sp_cue
  split
  · exact h
  · rename_i q
    split
    · exact h
    · rename_i q2
      have q3 := Classical.not_not.mp q
      obtain ⟨a1, a2, a3, a4⟩ := q3
      refine fj_up (fj_up (fj_up (fj_up h ?_ (by omega) (by omega)) ?_ (by omega) (by omega)) ?_ (by omega) (by omega)) ?_ (by omega) (by omega)
      · simp [flo, fhi]; omega
      · simp [flo, fhi]; omega
      · simp [flo, fhi]; omega
      · simp [flo, fhi]; omega
theorem fs_noCues {μ : fm_Mem} (h : fj μ) : fj (sp_noCues μ).2 := by
  unfold sp_noCues
  refine fj_up h ?_ (by omega) (by omega)
  simp [flo, fhi]
theorem fs_undo {μ : fm_Mem} (h : fj μ) : fj (sp_undo μ).2 := by
  have h7 := h.fi.2.2.2.2.2.2.2.2.2.2.2.2.2.1
  have h8 := (h.fi.2.2.2.2.2.2.2.2.2.2.2.2.2.2 (μ 0 16 - 1).toNat).2
  unfold sp_undo
  split
  · exact h
  · refine fj_up (fj_up h ?_ (by omega) (by omega)) ?_ (by omega) (by omega)
    · simp [flo, fhi]; omega
    · exact ⟨h8.1, h8.2⟩
theorem fs_mend {μ : fm_Mem} (h : fj μ) (p : Int) : fj (sp_mend μ p).2 := by
  have hf := h.fi
  unfold sp_mend
  split
  · exact h
  · rename_i q
    split
    · exact h
    · rename_i q2
      have q3 := Classical.not_not.mp q
      have q4 := Classical.not_not.mp q2
      obtain ⟨s1, s2⟩ := srcs_ok hf p.toNat
      have s3 := q4.2.2.1
      have hc : srcs μ p.toNat < 6 := by omega
      have w1 := wn_b hf (p.toNat - 1) (srcs μ p.toNat)
      have w2 := wn_b hf (p.toNat + 1) (srcs μ p.toNat)
      have hn := hf.2.1 (srcs μ p.toNat) (by omega)
      have hs : 0 ≤ std μ (srcs μ p.toNat) p.toNat ∧ std μ (srcs μ p.toNat) p.toNat < 40 := by
        rcases std_b (μ := μ) (c := srcs μ p.toNat) (p := p.toNat) (by omega) with e | e
        · exfalso
          rcases s2 with e2 | e2
          · omega
          · omega
        · omega
      refine fj_kp h (by omega) ?_
      unfold mdv
      omega
