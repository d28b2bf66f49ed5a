/-! LINING UP: the least cost, and who stands with whom -/
def lc (f g : Nat → Int) (n m : Nat) : Nat → Nat → Int
  | 0, v => 3 * v
  | u + 1, 0 => 3 * (u + 1)
  | u + 1, v + 1 => min (3 + min (lc f g n m (u + 1) v) (lc f g n m u (v + 1))) (pcost (f (n - (u + 1))) (g (m - (v + 1))) + lc f g n m u v)
termination_by u v => u + v
def lct (f g : Nat → Int) (n m i j : Nat) : Int := lc f g n m (n - i) (m - j)
theorem lct_n {f g : Nat → Int} {n m j : Nat} (h : j ≤ m) : lct f g n m n j = 3 * ((m : Int) - j) := by
  unfold lct
  rw [Nat.sub_self, lc]
  omega
theorem lct_m {f g : Nat → Int} {n m i : Nat} (h : i ≤ n) : lct f g n m i m = 3 * ((n : Int) - i) := by
  unfold lct
  rw [Nat.sub_self]
  cases hq : n - i with
  | zero => rw [lc]; omega
  | succ u => rw [lc]; omega
theorem lct_s {f g : Nat → Int} {n m i j : Nat} (hi : i < n) (hj : j < m) : lct f g n m i j = min (3 + min (lct f g n m i (j + 1)) (lct f g n m (i + 1) j)) (pcost (f i) (g j) + lct f g n m (i + 1) (j + 1)) := by
  unfold lct
  obtain ⟨u, hu⟩ : ∃ u, n - i = u + 1 := ⟨n - i - 1, by omega⟩
  obtain ⟨v, hv⟩ : ∃ v, m - j = v + 1 := ⟨m - j - 1, by omega⟩
  rw [hu, hv, lc, show n - (i + 1) = u by omega, show m - (j + 1) = v by omega, show n - (u + 1) = i by omega, show m - (v + 1) = j by omega]
theorem lc_b (f g : Nat → Int) (n m : Nat) : ∀ (t u v : Nat), u + v ≤ t → 0 ≤ lc f g n m u v ∧ lc f g n m u v ≤ 3 * ((u : Int) + v) := by
  intro t
  induction t with
  | zero =>
    intro u v h
    have hu : u = 0 := by omega
    subst hu
    rw [lc]
    omega
  | succ t ih =>
    intro u v h
    match u, v with
    | 0, v => rw [lc]; omega
    | u + 1, 0 => rw [lc]; omega
    | u + 1, v + 1 =>
      rw [lc]
      have h1 := ih (u + 1) v (by omega)
      have h2 := ih u (v + 1) (by omega)
      have h3 := ih u v (by omega)
      have h4 := pcost_b (f (n - (u + 1))) (g (m - (v + 1)))
      omega
theorem lct_b {f g : Nat → Int} {n m i j : Nat} (hn : n ≤ 40) (hm : m ≤ 40) : 0 ≤ lct f g n m i j ∧ lct f g n m i j ≤ 240 := by
  have := lc_b f g n m _ (n - i) (m - j) (Nat.le_refl _)
  unfold lct
  omega
def lup (p : Nat → Int) (i : Nat) (v : Int) : Nat → Int := fun k => if k = i then v else p k
/-- from row places i, j on: the partners laid into p -/
def lpa (f g : Nat → Int) (n m i j : Nat) (p : Nat → Int) : Nat → Int :=
  if h : i < n then
    (if h1 : j < m ∧ lct f g n m i j = lct f g n m (i + 1) (j + 1) + pcost (f i) (g j) then lpa f g n m (i + 1) (j + 1) (lup p i j)
    else if h2 : j < m ∧ lct f g n m i j = lct f g n m i (j + 1) + 3 then lpa f g n m i (j + 1) p
    else lpa f g n m (i + 1) j (lup p i (-4)))
  else p
termination_by (n - i) + (m - j)
decreasing_by all_goals omega
theorem lpa_end {f g : Nat → Int} {n m i j : Nat} {p : Nat → Int} (h : n ≤ i) : lpa f g n m i j p = p := by
  rw [lpa, dif_neg (by omega)]
theorem lpa_1 {f g : Nat → Int} {n m i j : Nat} {p : Nat → Int} (h : i < n) (h1 : j < m) (h2 : lct f g n m i j = lct f g n m (i + 1) (j + 1) + pcost (f i) (g j)) : lpa f g n m i j p = lpa f g n m (i + 1) (j + 1) (lup p i j) := by
  rw [lpa, dif_pos h, dif_pos ⟨h1, h2⟩]
theorem lpa_2 {f g : Nat → Int} {n m i j : Nat} {p : Nat → Int} (h : i < n) (h1 : j < m) (h2 : ¬ lct f g n m i j = lct f g n m (i + 1) (j + 1) + pcost (f i) (g j)) (h3 : lct f g n m i j = lct f g n m i (j + 1) + 3) : lpa f g n m i j p = lpa f g n m i (j + 1) p := by
  rw [lpa, dif_pos h, dif_neg (fun q => h2 q.2), dif_pos ⟨h1, h3⟩]
theorem lpa_3 {f g : Nat → Int} {n m i j : Nat} {p : Nat → Int} (h : i < n) (h2 : ¬ (j < m ∧ lct f g n m i j = lct f g n m (i + 1) (j + 1) + pcost (f i) (g j))) (h3 : ¬ (j < m ∧ lct f g n m i j = lct f g n m i (j + 1) + 3)) : lpa f g n m i j p = lpa f g n m (i + 1) j (lup p i (-4)) := by
  rw [lpa, dif_pos h, dif_neg h2, dif_neg h3]
theorem lpa_cong (f g : Nat → Int) (n m : Nat) : ∀ (t i j : Nat) (p q : Nat → Int), (n - i) + (m - j) ≤ t → (∀ k, k < i → p k = q k) → ∀ k, k < n → lpa f g n m i j p k = lpa f g n m i j q k := by
  intro t
  induction t with
  | zero =>
    intro i j p q ht h k hk
    rw [lpa_end (by omega), lpa_end (by omega)]
    exact h k (by omega)
  | succ t ih =>
    intro i j p q ht h k hk
    by_cases hi : i < n
    · have up : ∀ v : Int, ∀ k, k < i + 1 → lup p i v k = lup q i v k := fun v k hk => by
        unfold lup
        by_cases e : k = i
        · rw [if_pos e, if_pos e]
        · rw [if_neg e, if_neg e]; exact h k (by omega)
      by_cases h1 : j < m ∧ lct f g n m i j = lct f g n m (i + 1) (j + 1) + pcost (f i) (g j)
      · rw [lpa_1 hi h1.1 h1.2, lpa_1 hi h1.1 h1.2]
        exact ih _ _ _ _ (by omega) (up _) k hk
      · by_cases h2 : j < m ∧ lct f g n m i j = lct f g n m i (j + 1) + 3
        · rw [lpa_2 hi h2.1 (fun q => h1 ⟨h2.1, q⟩) h2.2, lpa_2 hi h2.1 (fun q => h1 ⟨h2.1, q⟩) h2.2]
          exact ih _ _ _ _ (by omega) h k hk
        · rw [lpa_3 hi h1 h2, lpa_3 hi h1 h2]
          exact ih _ _ _ _ (by omega) (up _) k hk
    · rw [lpa_end (by omega), lpa_end (by omega)]
      exact h k (by omega)
/-- the partner of k -/
def lpt (f g : Nat → Int) (n m k : Nat) : Int := lpa f g n m 0 0 (fun _ => 0) k
theorem lpt_of {f g : Nat → Int} {n m k : Nat} {p : Nat → Int} (hk : k < n) : lpa f g n m 0 0 p k = lpt f g n m k := lpa_cong f g n m _ 0 0 p _ (Nat.le_refl _) (fun k h => absurd h (Nat.not_lt_zero k)) k hk
/-- a partner is none, or a place of the second row -/
theorem lpa_b (f g : Nat → Int) (n m : Nat) : ∀ (t i j : Nat) (p : Nat → Int), (n - i) + (m - j) ≤ t → (∀ k, k < i → p k = -4 ∨ (0 ≤ p k ∧ p k < m)) → ∀ k, k < n → lpa f g n m i j p k = -4 ∨ (0 ≤ lpa f g n m i j p k ∧ lpa f g n m i j p k < m) := by
  intro t
  induction t with
  | zero =>
    intro i j p ht h k hk
    rw [lpa_end (by omega)]
    exact h k (by omega)
  | succ t ih =>
    intro i j p ht h k hk
    by_cases hi : i < n
    · by_cases h1 : j < m ∧ lct f g n m i j = lct f g n m (i + 1) (j + 1) + pcost (f i) (g j)
      · rw [lpa_1 hi h1.1 h1.2]
        refine ih _ _ _ (by omega) (fun k hk => ?_) k hk
        unfold lup
        split
        · omega
        · exact h k (by omega)
      · by_cases h2 : j < m ∧ lct f g n m i j = lct f g n m i (j + 1) + 3
        · rw [lpa_2 hi h2.1 (fun q => h1 ⟨h2.1, q⟩) h2.2]
          exact ih _ _ _ (by omega) h k hk
        · rw [lpa_3 hi h1 h2]
          refine ih _ _ _ (by omega) (fun k hk => ?_) k hk
          unfold lup
          split
          · omega
          · exact h k (by omega)
    · rw [lpa_end (by omega)]
      exact h k (by omega)
theorem lpt_b {f g : Nat → Int} {n m k : Nat} (hk : k < n) : lpt f g n m k = -4 ∨ (0 ≤ lpt f g n m k ∧ lpt f g n m k < m) := lpa_b f g n m _ 0 0 _ (Nat.le_refl _) (fun k h => absurd h (Nat.not_lt_zero k)) k hk
theorem lc_cong {f g f' g' : Nat → Int} {n m : Nat} (hf : ∀ k, k < n → f k = f' k) (hg : ∀ k, k < m → g k = g' k) : ∀ (t u v : Nat), u + v ≤ t → u ≤ n → v ≤ m → lc f g n m u v = lc f' g' n m u v := by
  intro t
  induction t with
  | zero =>
    intro u v h _ _
    have hu : u = 0 := by omega
    subst hu
    rw [lc, lc]
  | succ t ih =>
    intro u v h hu hv
    match u, v with
    | 0, v => rw [lc, lc]
    | u + 1, 0 => rw [lc, lc]
    | u + 1, v + 1 =>
      rw [lc, lc, ih (u + 1) v (by omega) hu (by omega), ih u (v + 1) (by omega) (by omega) hv, ih u v (by omega) (by omega) (by omega), hf _ (by omega), hg _ (by omega)]
theorem lct_cong {f g f' g' : Nat → Int} {n m i j : Nat} (hf : ∀ k, k < n → f k = f' k) (hg : ∀ k, k < m → g k = g' k) : lct f g n m i j = lct f' g' n m i j := lc_cong hf hg _ _ _ (Nat.le_refl _) (by omega) (by omega)
theorem lpa_fg {f g f' g' : Nat → Int} {n m : Nat} (hf : ∀ k, k < n → f k = f' k) (hg : ∀ k, k < m → g k = g' k) : ∀ (t i j : Nat) (p : Nat → Int), (n - i) + (m - j) ≤ t → lpa f g n m i j p = lpa f' g' n m i j p := by
  intro t
  induction t with
  | zero =>
    intro i j p ht
    rw [lpa_end (by omega), lpa_end (by omega)]
  | succ t ih =>
    intro i j p ht
    by_cases hi : i < n
    · have e1 : ∀ i j, lct f g n m i j = lct f' g' n m i j := fun i j => lct_cong hf hg
      by_cases h1 : j < m ∧ lct f g n m i j = lct f g n m (i + 1) (j + 1) + pcost (f i) (g j)
      · rw [lpa_1 hi h1.1 h1.2, lpa_1 hi h1.1 (by rw [← e1, ← e1, ← hf i hi, ← hg j h1.1]; exact h1.2)]
        exact ih _ _ _ (by omega)
      · have h1' : ¬ (j < m ∧ lct f' g' n m i j = lct f' g' n m (i + 1) (j + 1) + pcost (f' i) (g' j)) := fun q => h1 ⟨q.1, by rw [e1, e1, hf i hi, hg j q.1]; exact q.2⟩
        by_cases h2 : j < m ∧ lct f g n m i j = lct f g n m i (j + 1) + 3
        · rw [lpa_2 hi h2.1 (fun q => h1 ⟨h2.1, q⟩) h2.2, lpa_2 hi h2.1 (fun q => h1' ⟨h2.1, q⟩) (by rw [← e1, ← e1]; exact h2.2)]
          exact ih _ _ _ (by omega)
        · rw [lpa_3 hi h1 h2, lpa_3 hi h1' (fun q => h2 ⟨q.1, by rw [e1, e1]; exact q.2⟩)]
          exact ih _ _ _ (by omega)
    · rw [lpa_end (by omega), lpa_end (by omega)]
theorem lpt_cong {f g f' g' : Nat → Int} {n m k : Nat} (hf : ∀ k, k < n → f k = f' k) (hg : ∀ k, k < m → g k = g' k) : lpt f g n m k = lpt f' g' n m k := by
  unfold lpt
  rw [lpa_fg hf hg _ 0 0 _ (Nat.le_refl _)]
