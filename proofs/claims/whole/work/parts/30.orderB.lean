/-! THE ORDER: quarrels by spots; digits; the first of the least -/
def osp (n : Nat) : Nat → Nat → Nat → (Nat → Int) → (Nat → Int)
  | 0, _, _, f => f
  | r + 1, U, x, f => osp n r (U + 2 ^ pick U (x / fct r)) (x % fct r) (lup f (pick U (x / fct r)) ((n - (r + 1) : Nat) : Int))
def qsU (μ : fm_Mem) (f : Nat → Int) (U : Nat) : Nat → Int
  | 0 => 0
  | k + 1 => qsU μ f U k + (if bt U (μ 11 k).toNat = 1 ∧ bt U (μ 12 k).toNat = 1 ∧ f (μ 12 k).toNat < f (μ 11 k).toNat then μ 13 k else 0)
def qsn (μ : fm_Mem) (f : Nat → Int) (n : Int) : Nat → Int
  | 0 => 0
  | k + 1 => qsn μ f n k + (if (μ 11 k < n ∧ μ 12 k < n) ∧ f (μ 12 k).toNat < f (μ 11 k).toNat then μ 13 k else 0)
def vsm (μ : fm_Mem) (U v : Nat) : Nat → Int
  | 0 => 0
  | k + 1 => vsm μ U v k + (if μ 11 k = v ∧ bt U (μ 12 k).toNat = 1 then μ 13 k else 0)
theorem qsU_step {μ : fm_Mem} (hf : fi μ) {U v : Nat} {f : Nat → Int} {i : Int} (hU : U < 64) (hv : v < 6) (hb : bt U v = 0) (hi : ∀ t, t < 6 → bt U t = 1 → f t < i) : ∀ k, qsU μ (lup f v i) (U + 2 ^ v) k = qsU μ f U k + vsm μ U v k
  | 0 => by rw [qsU, qsU, vsm]; rfl
  | k + 1 => by
    obtain ⟨a1, a2, a3⟩ := hf.2.2.2.2.2.2.2.2.2.2.2.2.1 k
    have ih := qsU_step hf hU hv hb hi k
    have ea := bt_add U hU v hv hb (μ 11 k).toNat (by omega)
    have eb := bt_add U hU v hv hb (μ 12 k).toNat (by omega)
    have fa := hi (μ 11 k).toNat (by omega)
    have fb := hi (μ 12 k).toNat (by omega)
    rw [qsU, qsU, vsm, ih, ea, eb]
    unfold lup
    by_cases h1 : (μ 11 k).toNat = v
    · have h1' : μ 11 k = v := by omega
      rw [if_pos h1, if_pos h1]
      by_cases h2 : (μ 12 k).toNat = v
      · rw [if_pos h2, if_pos h2, if_neg (by omega), if_neg (by rw [h2, hb]; omega), if_neg (by rw [h2, hb]; omega)]
        omega
      · rw [if_neg h2, if_neg h2, if_neg (show ¬ (bt U (μ 11 k).toNat = 1 ∧ bt U (μ 12 k).toNat = 1 ∧ f (μ 12 k).toNat < f (μ 11 k).toNat) by rw [h1, hb]; omega)]
        rcases bt_c U (μ 12 k).toNat with q | q
        · rw [if_neg (by omega), if_neg (by omega)]
          omega
        · have := fb q
          rw [if_pos ⟨rfl, q, this⟩, if_pos ⟨h1', q⟩]
          omega
    · have h1' : ¬ μ 11 k = v := by omega
      rw [if_neg h1, if_neg h1, if_neg (show ¬ (μ 11 k = v ∧ bt U (μ 12 k).toNat = 1) from fun z => h1' z.1)]
      by_cases h2 : (μ 12 k).toNat = v
      · rw [if_pos h2, if_pos h2, if_neg (show ¬ (bt U (μ 11 k).toNat = 1 ∧ bt U (μ 12 k).toNat = 1 ∧ f (μ 12 k).toNat < f (μ 11 k).toNat) by rw [h2, hb]; omega)]
        rcases bt_c U (μ 11 k).toNat with q | q
        · rw [if_neg (by omega)]
          omega
        · have := fa q
          rw [if_neg (by omega)]
          omega
      · rw [if_neg h2, if_neg h2]
        split <;> omega
def dsk (μ : fm_Mem) (U s K : Nat) : Nat → Int
  | 0 => 0
  | t + 1 => dsk μ U s K t + (if bt U t = 1 then cuw μ s t K else 0)
theorem dsm_dsk (μ : fm_Mem) (U s : Nat) : ∀ n, dsm μ U s n = dsk μ U s (μ 0 12).toNat n
  | 0 => rfl
  | n + 1 => by rw [dsm, dsk, dsm_dsk μ U s n]
theorem dsk_0 (μ : fm_Mem) (U s : Nat) : ∀ m, dsk μ U s 0 m = 0
  | 0 => rfl
  | m + 1 => by
    rw [dsk, dsk_0 μ U s m, cuw]
    split <;> rfl
theorem dsk_s {μ : fm_Mem} (hf : fi μ) {U v K : Nat} : ∀ m, dsk μ U v (K + 1) m = dsk μ U v K m + (if μ 11 K = v ∧ bt U (μ 12 K).toNat = 1 ∧ (μ 12 K).toNat < m then μ 13 K else 0)
  | 0 => by rw [dsk, dsk, if_neg (by omega)]; rfl
  | m + 1 => by
    obtain ⟨a1, a2, a3⟩ := hf.2.2.2.2.2.2.2.2.2.2.2.2.1 K
    rw [dsk, dsk, dsk_s hf m, cuw]
    by_cases e : (μ 12 K).toNat = m
    · have e' : μ 12 K = (m : Int) := by omega
      rw [if_neg (show ¬ (μ 11 K = v ∧ bt U (μ 12 K).toNat = 1 ∧ (μ 12 K).toNat < m) by omega), e]
      rcases bt_c U m with q | q
      · rw [if_neg (show ¬ bt U m = 1 by omega), if_neg (show ¬ bt U m = 1 by omega), if_neg (show ¬ (μ 11 K = v ∧ bt U m = 1 ∧ m < m + 1) by omega)]
      · rw [if_pos q, if_pos q]
        by_cases c : μ 11 K = v
        · rw [if_pos ⟨c, e'⟩, if_pos ⟨c, q, by omega⟩]
          omega
        · rw [if_neg (fun z => c z.1), if_neg (fun z => c z.1)]
          omega
    · rw [if_neg (show ¬ (μ 11 K = (v : Int) ∧ μ 12 K = (m : Int)) by omega)]
      by_cases c : μ 11 K = v ∧ bt U (μ 12 K).toNat = 1 ∧ (μ 12 K).toNat < m
      · rw [if_pos c, if_pos (show μ 11 K = v ∧ bt U (μ 12 K).toNat = 1 ∧ (μ 12 K).toNat < m + 1 from ⟨c.1, c.2.1, by omega⟩)]
        split <;> omega
      · rw [if_neg c, if_neg (show ¬ (μ 11 K = v ∧ bt U (μ 12 K).toNat = 1 ∧ (μ 12 K).toNat < m + 1) from fun z => c ⟨z.1, z.2.1, by omega⟩)]
        split <;> omega
theorem vsm_dsk {μ : fm_Mem} (hf : fi μ) {U v n : Nat} (hu : ∀ t, n ≤ t → t < 6 → bt U t = 0) : ∀ K, vsm μ U v K = dsk μ U v K n
  | 0 => by rw [vsm, dsk_0]
  | K + 1 => by
    obtain ⟨a1, a2, a3⟩ := hf.2.2.2.2.2.2.2.2.2.2.2.2.1 K
    rw [vsm, vsm_dsk hf hu K, dsk_s hf]
    congr 1
    by_cases c : μ 11 K = v ∧ bt U (μ 12 K).toNat = 1
    · have hlt : (μ 12 K).toNat < n := by
        rcases Nat.lt_or_ge (μ 12 K).toNat n with q | q
        · exact q
        · have := hu _ q (by omega)
          omega
      rw [if_pos c, if_pos ⟨c.1, c.2, hlt⟩]
    · rw [if_neg c, if_neg (fun q => c ⟨q.1, q.2.1⟩)]
theorem bt_hi : ∀ n, n < 7 → ∀ U, U < 2 ^ n → ∀ t, t < 6 → n ≤ t → bt U t = 0 := by decide +kernel
theorem vsm_dsm {μ : fm_Mem} (hf : fi μ) {U v n : Nat} (hn : n < 7) (hU : U < 2 ^ n) : vsm μ U v (μ 0 12).toNat = dsm μ U v n := by
  rw [dsm_dsk, vsm_dsk hf (fun t h1 h2 => bt_hi n hn U hU t h2 h1)]
theorem qsU_ocs {μ : fm_Mem} (hf : fi μ) {n : Nat} (hn : n < 7) : ∀ (r U x : Nat) (f : Nat → Int), U < 2 ^ n → r + pcn U n = n → x < fct r → (∀ t, t < 6 → bt U t = 1 → f t < ((n - r : Nat) : Int)) → qsU μ (osp n r U x f) (2 ^ n - 1) (μ 0 12).toNat = qsU μ f U (μ 0 12).toNat + ocs μ n r U x
  | 0, U, x, f, hU, hr, _, _ => by
    rw [osp, ocs, ← pcn_full n hn U hU (by omega)]
    omega
  | r + 1, U, x, f, hU, hr, hx, hi => by
    have h64 := pow_64 n hn
    have hfp := fct_pos r
    have ha : x / fct r < n - pcn U n := by
      rw [show n - pcn U n = r + 1 by omega]
      exact Nat.div_lt_of_lt_mul (by rw [Nat.mul_comm]; exact hx)
    obtain ⟨p1, p2⟩ := pick_o U (by omega) n hn (x / fct r) ha
    rw [osp, ocs, qsU_ocs hf hn r (U + 2 ^ pick U (x / fct r)) (x % fct r) _ (lt_add n hn U hU _ p1 p2) (by rw [pcn_add U (by omega) n hn _ p1 p2]; omega) (Nat.mod_lt _ hfp) (fun t ht hb => ?_), qsU_step hf (by omega) (by omega) p2 (fun t ht hb => hi t ht hb), vsm_dsm hf hn hU, Int.add_assoc]
    rw [bt_add U (by omega) _ (by omega) p2 t ht] at hb
    unfold lup
    by_cases e : t = pick U (x / fct r)
    · rw [if_pos e]
      omega
    · rw [if_neg e]
      rw [if_neg e] at hb
      have := hi t ht hb
      omega
theorem qsn_qsU {μ : fm_Mem} (hf : fi μ) {n : Nat} (hn : n < 7) (f : Nat → Int) : ∀ k, qsn μ f (n : Int) k = qsU μ f (2 ^ n - 1) k
  | 0 => rfl
  | k + 1 => by
    obtain ⟨a1, a2, a3⟩ := hf.2.2.2.2.2.2.2.2.2.2.2.2.1 k
    rw [qsn, qsU, qsn_qsU hf hn f k, bt_full n hn _ (by omega), bt_full n hn _ (by omega)]
    congr 1
    by_cases c1 : μ 11 k < n <;> by_cases c2 : μ 12 k < n
    · rw [if_pos (show (μ 11 k).toNat < n by omega), if_pos (show (μ 12 k).toNat < n by omega)]
      simp [c1, c2]
    · rw [if_neg (show ¬ (μ 12 k).toNat < n by omega)]
      simp [c2]
    · rw [if_neg (show ¬ (μ 11 k).toNat < n by omega)]
      simp [c1]
    · rw [if_neg (show ¬ (μ 11 k).toNat < n by omega)]
      simp [c1]
theorem bt_0 (v : Nat) : bt 0 v = 0 := by unfold bt; rw [Nat.zero_div]
theorem qsU_0 (μ : fm_Mem) (f : Nat → Int) : ∀ k, qsU μ f 0 k = 0
  | 0 => rfl
  | k + 1 => by
    rw [qsU, qsU_0 μ f k, if_neg (by rw [bt_0]; omega)]
    rfl
/-- the quarrel of a number -/
theorem qsn_ocs {μ : fm_Mem} (hf : fi μ) {n : Nat} (hn : n < 7) {x : Nat} (hx : x < fct n) (f : Nat → Int) : qsn μ (osp n n 0 x f) (n : Int) (μ 0 12).toNat = ocs μ n n 0 x := by
  have p0 : pcn 0 n = 0 := by
    have : ∀ k, pcn 0 k = 0 := by
      intro k
      induction k with
      | zero => rfl
      | succ k ih => rw [pcn, ih, bt_0]
    exact this n
  rw [qsn_qsU hf hn, qsU_ocs hf hn n 0 x f (Nat.two_pow_pos n) (by omega) hx (fun t _ h => by rw [bt_0] at h; omega), qsU_0, Int.zero_add]
-- digits
def dg (f : Nat → Int) : Nat → Int
  | 0 => 0
  | k + 1 => dg f k + f k * 8 ^ k
theorem dg_b {f : Nat → Int} : ∀ n, (∀ j, j < n → 0 ≤ f j ∧ f j < 8) → 0 ≤ dg f n ∧ dg f n < 8 ^ n
  | 0, _ => by rw [dg]; decide
  | n + 1, h => by
    obtain ⟨h1, h2⟩ := dg_b n (fun j hj => h j (by omega))
    obtain ⟨h3, h4⟩ := h n (by omega)
    have hp : (0 : Int) < 8 ^ n := Int.pow_pos (by decide)
    rw [dg, Int.pow_succ]
    have h5 : f n * 8 ^ n ≤ 7 * 8 ^ n := Int.mul_le_mul_of_nonneg_right (by omega) (by omega)
    have h6 : 0 ≤ f n * 8 ^ n := Int.mul_nonneg h3 (by omega)
    omega
theorem dg_split {f : Nat → Int} (i : Nat) : ∀ d, ∃ R : Int, dg f (i + 1 + d) = dg f i + 8 ^ i * (f i + 8 * R)
  | 0 => ⟨0, by rw [Nat.add_zero, dg, Int.mul_zero, Int.add_zero, Int.mul_comm]⟩
  | d + 1 => by
    obtain ⟨R, hR⟩ := dg_split (f := f) i d
    refine ⟨R + f (i + 1 + d) * 8 ^ d, ?_⟩
    rw [show i + 1 + (d + 1) = (i + 1 + d) + 1 by omega, dg, hR, Int.pow_add, Int.pow_add]
    rw [Int.mul_add 8, ← Int.add_assoc (f i), Int.mul_add (8 ^ i)]
    rw [Int.add_assoc (dg f i)]
    congr 1
    congr 1
    rw [show (8 : Int) ^ 1 = 8 from rfl, Int.mul_comm (f (i + 1 + d)), Int.mul_assoc, Int.mul_assoc, Int.mul_comm (8 ^ d) (f (i + 1 + d))]
    rw [Int.mul_add (8 ^ i) (f i + 8 * R), Int.mul_add (8 ^ i) (f i)]
theorem dg_at {f : Nat → Int} {n i : Nat} (h : ∀ j, j < n → 0 ≤ f j ∧ f j < 8) (hi : i < n) : dg f n / 8 ^ i % 8 = f i := by
  obtain ⟨R, hR⟩ := dg_split (f := f) i (n - i - 1)
  rw [show i + 1 + (n - i - 1) = n by omega] at hR
  obtain ⟨h1, h2⟩ := dg_b i (fun j hj => h j (by omega))
  have hp : (0 : Int) < 8 ^ i := Int.pow_pos (by decide)
  have h3 := h i hi
  rw [hR, Int.add_mul_ediv_left _ _ (by omega), Int.ediv_eq_zero_of_lt h1 h2, Int.zero_add]
  omega
/-- the first of the least -/
theorem gfo_arg {U : Nat} {x : Nat → Tr} (hx : ∀ s, (x s).1 < 1000000) : ∀ k, ((∀ s, s < k → bt U s = 1) ∧ gfo U x (1000000, 0, 0) k = (1000000, 0, 0)) ∨ ∃ s, s < k ∧ bt U s = 0 ∧ (gfo U x (1000000, 0, 0) k).1 = (x s).1 ∧ (gfo U x (1000000, 0, 0) k).2.2 = (x s).2.2 ∧ ∀ t, t < s → bt U t = 0 → (x t).1 ≠ (x s).1
  | 0 => Or.inl ⟨fun s hs => absurd hs (Nat.not_lt_zero s), rfl⟩
  | k + 1 => by
    rw [gfo]
    rcases bt_c U k with hb | hb
    · rw [if_pos hb]
      right
      rcases gfo_arg (U := U) hx k with ⟨h1, h2⟩ | ⟨s, h1, h2, h3, h4, h5⟩
      · refine ⟨k, by omega, hb, ?_, ?_, fun t ht hbt => by have := h1 t ht; omega⟩
        · rw [h2, gg_lt (hx k)]
        · rw [h2, gg_lt (hx k)]
      · rcases Int.lt_trichotomy (x k).1 (gfo U x (1000000, 0, 0) k).1 with q | q | q
        · refine ⟨k, by omega, hb, by rw [gg_lt q], by rw [gg_lt q], fun t ht hbt => ?_⟩
          have hle : ∀ m, (∀ t, t < m → bt U t = 0 → (gfo U x (1000000, 0, 0) m).1 ≤ (x t).1) := by
            intro m
            induction m with
            | zero => intro t ht; omega
            | succ m ihm =>
              intro t ht hbt
              rw [gfo]
              by_cases e : bt U m = 0
              · rw [if_pos e]
                unfold gg
                by_cases e2 : t = m
                · subst e2
                  split
                  · exact Int.le_refl _
                  · split <;> (try simp only) <;> omega
                · have := ihm t (by omega) hbt
                  split
                  · omega
                  · split <;> (try simp only) <;> omega
              · rw [if_neg e]
                by_cases e2 : t = m
                · subst e2; omega
                · exact ihm t (by omega) hbt
          have := hle k t ht hbt
          omega
        · exact ⟨s, by omega, h2, by rw [gg_eq q]; exact h3, by rw [gg_eq q]; exact h4, h5⟩
        · exact ⟨s, by omega, h2, by rw [gg_gt q]; exact h3, by rw [gg_gt q]; exact h4, h5⟩
    · rw [if_neg (by omega)]
      rcases gfo_arg (U := U) hx k with ⟨h1, h2⟩ | ⟨s, h1, h2, h3, h4, h5⟩
      · refine Or.inl ⟨fun s hs => ?_, h2⟩
        by_cases e : s = k
        · rw [e]; exact hb
        · exact h1 s (by omega)
      · exact Or.inr ⟨s, by omega, h2, h3, h4, h5⟩
/-- what the order's triple is for a set that isn't full: a first shot of least cost -/
def xq (μ : fm_Mem) (n r U : Nat) : Nat → Tr := fun s => shf (dsm μ U s n) ((s : Int) * 8 ^ (n - (r + 1))) (dpt μ n r (U + 2 ^ s))
theorem dpt_x (μ : fm_Mem) (n r U : Nat) : dpt μ n (r + 1) U = gfo U (xq μ n r U) (1000000, 0, 0) n := by rw [dpt]; rfl
theorem dpt_arg {μ : fm_Mem} (hf : fi μ) {n : Nat} (hn : n < 7) {r U : Nat} (hU : U < 2 ^ n) (hr : r + 1 + pcn U n = n) : ∃ s, s < n ∧ bt U s = 0 ∧ (dpt μ n (r + 1) U).1 = dsm μ U s n + (dpt μ n r (U + 2 ^ s)).1 ∧ (dpt μ n (r + 1) U).2.2 = (s : Int) * 8 ^ (n - (r + 1)) + (dpt μ n r (U + 2 ^ s)).2.2 ∧ ∀ t, t < s → bt U t = 0 → dsm μ U t n + (dpt μ n r (U + 2 ^ t)).1 ≠ (dpt μ n (r + 1) U).1 := by
  have h64 := pow_64 n hn
  have key : gfo U (xq μ n r U) (1000000, 0, 0) n = gfo U (fun s => if s < n ∧ bt U s = 0 then xq μ n r U s else (0, 0, 0)) (1000000, 0, 0) n := gfo_cong n (fun s hs hb => by rw [if_pos ⟨hs, hb⟩])
  rw [dpt_x, key]
  rcases gfo_arg (U := U) (x := fun s => if s < n ∧ bt U s = 0 then xq μ n r U s else (0, 0, 0)) (fun s => by
    (try simp only)
    split
    · rename_i q
      have h1 := dsm_b hf U s n
      have h2 := dpt_b hf hn r (U + 2 ^ s) (lt_add n hn U hU s q.1 q.2) (by rw [pcn_add U (by omega) n hn s q.1 q.2]; omega)
      show dsm μ U s n + (dpt μ n r (U + 2 ^ s)).1 < 1000000
      omega
    · (try simp only); omega) n with ⟨h1, -⟩ | ⟨s, h1, h2, h3, h4, h5⟩
  · exfalso
    have : ∀ k, k ≤ n → pcn U k = k := by
      intro k
      induction k with
      | zero => intro _; rfl
      | succ k ih => intro hk; rw [pcn, ih (by omega), h1 k (by omega)]
    have := this n (Nat.le_refl _)
    omega
  · refine ⟨s, h1, h2, ?_, ?_, fun t ht hb => ?_⟩
    · rw [h3, if_pos ⟨h1, h2⟩]; rfl
    · rw [h4, if_pos ⟨h1, h2⟩]; rfl
    · have h6 := h5 t ht hb
      rw [if_pos ⟨by omega, hb⟩, if_pos ⟨h1, h2⟩] at h6
      rw [h3, if_pos ⟨h1, h2⟩]
      exact h6
