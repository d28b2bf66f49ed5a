/-! THE WHOLE: prices, sources -/
abbrev mayP (μ : fm_Mem) (p s : Nat) : Prop := s = 6 ∨ (s < 6 ∧ 0 ≤ std μ s p)
def hB (μ : fm_Mem) (p : Nat) : Nat → Bool := fun s => decide (mayP μ p s)
theorem hB_t {μ : fm_Mem} {p s : Nat} : hB μ p s = true ↔ mayP μ p s := by unfold hB; exact decide_eq_true_iff
theorem hB_6 (μ : fm_Mem) (p : Nat) : hB μ p 6 = true := hB_t.mpr (Or.inl rfl)
/-- the first of the least among those below k that may be, from (b0, s0) on -/
def bf (h : Nat → Bool) (f : Nat → Int) (b0 : Int) (s0 : Nat) : Nat → Int × Nat
  | 0 => (b0, s0)
  | k + 1 => if h k = true ∧ f k < (bf h f b0 s0 k).1 then (f k, k) else bf h f b0 s0 k
theorem bf_two {h : Nat → Bool} {f : Nat → Int} {b0 b1 : Int} {s0 s1 : Nat} : ∀ k, (∀ s, s < k → h s = true → f s < b0 ∧ f s < b1) → bf h f b0 s0 k = bf h f b1 s1 k ∨ ((∀ s, s < k → h s = false) ∧ bf h f b0 s0 k = (b0, s0) ∧ bf h f b1 s1 k = (b1, s1))
  | 0, _ => Or.inr ⟨fun s hs => absurd hs (Nat.not_lt_zero s), rfl, rfl⟩
  | k + 1, hb => by
    rcases bf_two (s0 := s0) (s1 := s1) k (fun s hs => hb s (by omega)) with e | ⟨e1, e2, e3⟩
    · left
      rw [bf, bf, e]
    · by_cases hk : h k = true
      · left
        have := hb k (by omega) hk
        rw [bf, bf, e2, e3, if_pos ⟨hk, this.1⟩, if_pos ⟨hk, this.2⟩]
      · right
        refine ⟨fun s hs => ?_, ?_, ?_⟩
        · by_cases e : s = k
          · rw [e]; simpa using hk
          · exact e1 s (by omega)
        · rw [bf, if_neg (fun q => hk q.1)]; exact e2
        · rw [bf, if_neg (fun q => hk q.1)]; exact e3
theorem bf_le {h : Nat → Bool} {f : Nat → Int} {b0 : Int} {s0 : Nat} : ∀ k, (bf h f b0 s0 k).1 ≤ b0 ∧ ∀ s, s < k → h s = true → (bf h f b0 s0 k).1 ≤ f s
  | 0 => ⟨Int.le_refl _, fun s hs => absurd hs (Nat.not_lt_zero s)⟩
  | k + 1 => by
    obtain ⟨i1, i2⟩ := bf_le (h := h) (f := f) (b0 := b0) (s0 := s0) k
    rw [bf]
    by_cases c : h k = true ∧ f k < (bf h f b0 s0 k).1
    · rw [if_pos c]
      refine ⟨by have := c.2; simp only; omega, fun s hs hh => ?_⟩
      by_cases e : s = k
      · rw [e]; exact Int.le_refl _
      · have := i2 s (by omega) hh
        have := c.2
        simp only
        omega
    · rw [if_neg c]
      refine ⟨i1, fun s hs hh => ?_⟩
      by_cases e : s = k
      · subst e
        exact Int.not_lt.mp (fun q => c ⟨hh, q⟩)
      · exact i2 s (by omega) hh
theorem bf_at {h : Nat → Bool} {f : Nat → Int} {b0 : Int} {s0 : Nat} : ∀ k, (∃ s, s < k ∧ h s = true ∧ f s < b0) → ∃ s, s < k ∧ h s = true ∧ bf h f b0 s0 k = (f s, s)
  | 0, ⟨s, hs, _⟩ => absurd hs (Nat.not_lt_zero s)
  | k + 1, ⟨s, hs, hh, hf⟩ => by
    rw [bf]
    by_cases c : h k = true ∧ f k < (bf h f b0 s0 k).1
    · rw [if_pos c]
      exact ⟨k, by omega, c.1, rfl⟩
    · rw [if_neg c]
      by_cases e : s = k
      · subst e
        have hq : (bf h f b0 s0 s).1 ≤ f s := Int.not_lt.mp (fun q => c ⟨hh, q⟩)
        by_cases ex : ∃ s', s' < s ∧ h s' = true ∧ f s' < b0
        · obtain ⟨t, t1, t2, t3⟩ := bf_at (s0 := s0) s ex
          exact ⟨t, by omega, t2, t3⟩
        · exfalso
          have : ∀ q, q ≤ s → (bf h f b0 s0 q).1 = b0 := by
            intro q
            induction q with
            | zero => intro _; rfl
            | succ q ih =>
              intro hq2
              rw [bf, if_neg]
              · exact ih (by omega)
              · intro z
                rw [ih (by omega)] at z
                exact ex ⟨q, by omega, z.1, z.2⟩
          rw [this s (Nat.le_refl _)] at hq
          omega
      · obtain ⟨t, t1, t2, t3⟩ := bf_at (s0 := s0) k ⟨s, by omega, hh, hf⟩
        exact ⟨t, by omega, t2, t3⟩
def own (μ : fm_Mem) (p s : Nat) : Int := if s = 6 then μ 6 1 else μ 3 (40 * s + (std μ s p).toNat)
def cmr (μ : fm_Mem) (p s : Nat) : Int := μ 4 (40 * s + (std μ s p).toNat)
def jn (μ : fm_Mem) (p a s : Nat) : Int := if p = 0 ∨ a = 6 ∨ s = 6 ∨ μ 5 (p - 1) ≠ μ 5 p then 0 else (if a = s then 0 else μ 6 2) + (if cmr μ (p - 1) a = cmr μ p s then 0 else μ 6 3)
def prr (μ : fm_Mem) (n : Nat) : Nat → Nat → Int
  | 0, s => own μ (n - 1) s
  | r + 1, s => own μ (n - 1 - (r + 1)) s + (bf (hB μ (n - 1 - r)) (fun d => jn μ (n - 1 - r) s d + prr μ n r d) 1000000 6 7).1
def prc (μ : fm_Mem) (p s : Nat) : Int := prr μ (μ 1 6).toNat ((μ 1 6).toNat - 1 - p) s
def fv (μ : fm_Mem) (p a : Nat) : Nat → Int := fun d => jn μ p a d + prc μ p d
def mv (μ : fm_Mem) (p a : Nat) : Int := (bf (hB μ p) (fv μ p a) 1000000 6 7).1
def am (μ : fm_Mem) (p a : Nat) : Nat := (bf (hB μ p) (fv μ p a) 1000000 6 7).2
theorem prc_e {μ : fm_Mem} {p s : Nat} (h : p + 1 = (μ 1 6).toNat) : prc μ p s = own μ p s := by
  unfold prc
  rw [show (μ 1 6).toNat - 1 - p = 0 by omega, prr, show (μ 1 6).toNat - 1 = p by omega]
theorem prc_s {μ : fm_Mem} {p s : Nat} (h : p + 1 < (μ 1 6).toNat) : prc μ p s = own μ p s + mv μ (p + 1) s := by
  unfold prc mv fv
  obtain ⟨r, hr⟩ : ∃ r, (μ 1 6).toNat - 1 - p = r + 1 := ⟨(μ 1 6).toNat - 1 - p - 1, by omega⟩
  rw [hr, prr, show (μ 1 6).toNat - 1 - (r + 1) = p by omega, show (μ 1 6).toNat - 1 - r = p + 1 by omega]
  unfold prc
  rw [show (μ 1 6).toNat - 1 - (p + 1) = r by omega]
theorem own_b {μ : fm_Mem} (hf : fi μ) (p s : Nat) : 0 ≤ own μ p s ∧ own μ p s ≤ 100 := by
  have h1 := hf.2.2.2.2.2.2.2.1 1
  have h2 := hf.2.2.2.2.1 (40 * s + (std μ s p).toNat)
  unfold own
  split <;> omega
theorem jn_b {μ : fm_Mem} (hf : fi μ) (p a s : Nat) : 0 ≤ jn μ p a s ∧ jn μ p a s ≤ 200 := by
  have h1 := hf.2.2.2.2.2.2.2.1 2
  have h2 := hf.2.2.2.2.2.2.2.1 3
  unfold jn
  split
  · omega
  · split <;> split <;> omega
theorem jn_6 (μ : fm_Mem) (p a : Nat) : jn μ p a 6 = 0 := by
  unfold jn
  rw [if_pos (Or.inr (Or.inr (Or.inl rfl)))]
theorem bf_pos {h : Nat → Bool} {f : Nat → Int} {b0 : Int} {s0 : Nat} (hf : ∀ s, 0 ≤ f s) (hb : 0 ≤ b0) : ∀ k, 0 ≤ (bf h f b0 s0 k).1
  | 0 => hb
  | k + 1 => by
    rw [bf]
    split
    · exact hf k
    · exact bf_pos hf hb k
theorem prr_b {μ : fm_Mem} (hf : fi μ) (n : Nat) : ∀ r s, 0 ≤ prr μ n r s ∧ prr μ n r s ≤ 100 * ((r : Int) + 1)
  | 0, s => by rw [prr]; have := own_b hf (n - 1) s; omega
  | r + 1, s => by
    rw [prr]
    have h1 := own_b hf (n - 1 - (r + 1)) s
    have h2 := prr_b hf n r
    have h3 := (bf_le (h := hB μ (n - 1 - r)) (f := fun d => jn μ (n - 1 - r) s d + prr μ n r d) (b0 := 1000000) (s0 := 6) 7).2 6 (by omega) (hB_6 μ _)
    have h4 := bf_pos (h := hB μ (n - 1 - r)) (f := fun d => jn μ (n - 1 - r) s d + prr μ n r d) (b0 := 1000000) (s0 := 6) (fun d => by have := jn_b hf (n - 1 - r) s d; have := h2 d; omega) (by omega) 7
    simp only [jn_6] at h3
    have h5 := h2 6
    omega
theorem prc_b {μ : fm_Mem} (hf : fi μ) (p s : Nat) : 0 ≤ prc μ p s ∧ prc μ p s ≤ 4000 := by
  have b6 := hf.2.1 6 (by omega)
  by_cases e : (μ 1 6).toNat = 0
  · unfold prc
    rw [e, show 0 - 1 - p = 0 by omega]
    have := prr_b hf 0 0 s
    omega
  · have := prr_b hf (μ 1 6).toNat ((μ 1 6).toNat - 1 - p) s
    unfold prc
    omega
theorem fv_b {μ : fm_Mem} (hf : fi μ) (p a s : Nat) : 0 ≤ fv μ p a s ∧ fv μ p a s ≤ 5000 := by
  have h1 := jn_b hf p a s
  have h2 := prc_b hf p s
  unfold fv
  omega
theorem am_ok {μ : fm_Mem} (hf : fi μ) (p a : Nat) : am μ p a < 7 ∧ mayP μ p (am μ p a) ∧ mv μ p a = fv μ p a (am μ p a) := by
  obtain ⟨s, h1, h2, h3⟩ := bf_at (h := hB μ p) (f := fv μ p a) (b0 := 1000000) (s0 := 6) 7 ⟨6, by omega, hB_6 μ p, by have := fv_b hf p a 6; omega⟩
  unfold am mv
  rw [h3]
  exact ⟨h1, hB_t.mp h2, rfl⟩
theorem bf_init {μ : fm_Mem} (hf : fi μ) (p a : Nat) (b0 : Int) (s0 : Nat) (hb : 5000 < b0) : bf (hB μ p) (fv μ p a) b0 s0 7 = (mv μ p a, am μ p a) := by
  rcases bf_two (h := hB μ p) (f := fv μ p a) (b0 := b0) (b1 := 1000000) (s0 := s0) (s1 := 6) 7 (fun s _ _ => by have := fv_b hf p a s; omega) with e | ⟨e, -, -⟩
  · rw [e]; rfl
  · have := e 6 (by omega)
    rw [hB_6] at this
    cases this
def srcs (μ : fm_Mem) : Nat → Nat
  | 0 => am μ 0 6
  | p + 1 => am μ (p + 1) (srcs μ p)
def ahd (μ : fm_Mem) (p : Nat) : Nat := if p = 0 then 6 else srcs μ (p - 1)
theorem srcs_a (μ : fm_Mem) (p : Nat) : srcs μ p = am μ p (ahd μ p) := by
  cases p with
  | zero => rfl
  | succ p => rfl
theorem srcs_ok {μ : fm_Mem} (hf : fi μ) (p : Nat) : srcs μ p < 7 ∧ mayP μ p (srcs μ p) := by
  rw [srcs_a]
  exact ⟨(am_ok hf p _).1, (am_ok hf p _).2.1⟩
theorem ahd_ok {μ : fm_Mem} (hf : fi μ) (p : Nat) : ahd μ p < 7 ∧ (ahd μ p = 6 ∨ (0 < p ∧ mayP μ (p - 1) (ahd μ p))) := by
  unfold ahd
  split
  · exact ⟨by omega, Or.inl rfl⟩
  · obtain ⟨h1, h2⟩ := srcs_ok hf (p - 1)
    exact ⟨h1, Or.inr ⟨by omega, h2⟩⟩
def tot (μ : fm_Mem) : Int := if μ 1 6 = 0 then 0 else mv μ 0 6
-- what rests on the film alone
theorem hB_sam {μ μ' : fm_Mem} (h : sam μ μ') (p : Nat) : hB μ' p = hB μ p := by funext s; unfold hB mayP; rw [std_sam h]
theorem own_sam {μ μ' : fm_Mem} (h : sam μ μ') (p s : Nat) : own μ' p s = own μ p s := by unfold own; rw [std_sam h, h 6 _ (by omega), h 3 _ (by omega)]
