/-! THE ORDER: the mathematics. A set of shots is a number U by its bits. -/
def bt (U v : Nat) : Nat := U / 2 ^ v % 2
theorem bt_c (U v : Nat) : bt U v = 0 ∨ bt U v = 1 := by unfold bt; omega
def pcn (U : Nat) : Nat → Nat
  | 0 => 0
  | k + 1 => pcn U k + bt U k
def fct : Nat → Nat
  | 0 => 1
  | r + 1 => (r + 1) * fct r
theorem fct_pos : ∀ r, 0 < fct r
  | 0 => by decide
  | r + 1 => Nat.mul_pos (by omega) (fct_pos r)
/-- the a-th number from v on that is not in U -/
def pk (U : Nat) : Nat → Nat → Nat → Nat
  | 0, _, v => v
  | f + 1, a, v => if bt U v = 1 then pk U f a (v + 1) else if a = 0 then v else pk U f (a - 1) (v + 1)
def pick (U a : Nat) : Nat := pk U 6 a 0
theorem pick_r : ∀ U, U < 64 → ∀ v, v < 6 → bt U v = 0 → pick U (v - pcn U v) = v := by decide +kernel
theorem pick_o : ∀ U, U < 64 → ∀ n, n < 7 → ∀ a, a < n - pcn U n → pick U a < n ∧ bt U (pick U a) = 0 := by decide +kernel
theorem bt_add : ∀ U, U < 64 → ∀ v, v < 6 → bt U v = 0 → ∀ t, t < 6 → bt (U + 2 ^ v) t = if t = v then 1 else bt U t := by decide +kernel
theorem lor_add : ∀ U, U < 64 → ∀ v, v < 6 → bt U v = 0 → U ||| 2 ^ v = U + 2 ^ v := by decide +kernel
theorem pcn_add : ∀ U, U < 64 → ∀ n, n < 7 → ∀ v, v < n → bt U v = 0 → pcn (U + 2 ^ v) n = pcn U n + 1 := by decide +kernel
theorem lt_add : ∀ n, n < 7 → ∀ U, U < 2 ^ n → ∀ v, v < n → bt U v = 0 → U + 2 ^ v < 2 ^ n := by decide +kernel
theorem pcn_le : ∀ (U k : Nat), pcn U k ≤ k
  | _, 0 => Nat.le_refl _
  | U, k + 1 => by
    have := pcn_le U k
    have := bt_c U k
    rw [pcn]
    omega
theorem pcn_mono (U : Nat) : ∀ (k d : Nat), pcn U k ≤ pcn U (k + d) ∧ pcn U (k + d) ≤ pcn U k + d
  | _, 0 => ⟨Nat.le_refl _, Nat.le_refl _⟩
  | k, d + 1 => by
    have := pcn_mono U k d
    have := bt_c U (k + d)
    rw [show k + (d + 1) = (k + d) + 1 by omega, pcn]
    omega
theorem pcn_full : ∀ n, n < 7 → ∀ U, U < 2 ^ n → pcn U n = n → U = 2 ^ n - 1 := by decide +kernel
theorem pcn_lt : ∀ n, n < 7 → ∀ U, U < 2 ^ n - 1 → pcn U n < n := by decide +kernel
theorem bt_full : ∀ n, n < 7 → ∀ v, v < 6 → bt (2 ^ n - 1) v = if v < n then 1 else 0 := by decide +kernel
theorem pow_64 : ∀ n, n < 7 → 2 ^ n ≤ 64 := by decide
-- the costs
def dsm (μ : fm_Mem) (U s : Nat) : Nat → Int
  | 0 => 0
  | t + 1 => dsm μ U s t + (if bt U t = 1 then cuw μ s t (μ 0 12).toNat else 0)
abbrev Tr : Type := Int × Int × Int
def gg (a b : Tr) : Tr := if b.1 < a.1 then b else if b.1 = a.1 then (a.1, a.2.1 + b.2.1, a.2.2) else a
theorem gg_lt {a b : Tr} (h : b.1 < a.1) : gg a b = b := if_pos h
theorem gg_eq {a b : Tr} (h : b.1 = a.1) : gg a b = (a.1, a.2.1 + b.2.1, a.2.2) := by unfold gg; rw [if_neg (by omega), if_pos h]
theorem gg_gt {a b : Tr} (h : a.1 < b.1) : gg a b = a := by unfold gg; rw [if_neg (by omega), if_neg (by omega)]
theorem gg_assoc (a b c : Tr) : gg (gg a b) c = gg a (gg b c) := by
  rcases Int.lt_trichotomy b.1 a.1 with h | h | h <;> rcases Int.lt_trichotomy c.1 b.1 with k | k | k
  · rw [gg_lt h, gg_lt k, gg_lt (Int.lt_trans k h)]
  · rw [gg_lt h, gg_eq k, gg_lt (show (b.1, b.2.1 + c.2.1, b.2.2).1 < a.1 from h)]
  · rw [gg_lt h, gg_gt k, gg_lt h]
  · rw [gg_eq h, gg_lt k, gg_lt (show c.1 < (a.1, a.2.1 + b.2.1, a.2.2).1 by simp only; omega), gg_lt (by omega)]
  · rw [gg_eq h, gg_eq k, gg_eq (show c.1 = (a.1, a.2.1 + b.2.1, a.2.2).1 by simp only; omega), gg_eq (show (b.1, b.2.1 + c.2.1, b.2.2).1 = a.1 from h), Int.add_assoc]
  · rw [gg_eq h, gg_gt k, gg_gt (show (a.1, a.2.1 + b.2.1, a.2.2).1 < c.1 by simp only; omega), gg_eq h]
  · rw [gg_gt h, gg_lt k]
  · rw [gg_gt h, gg_eq k, gg_gt (show a.1 < c.1 by omega), gg_gt (show a.1 < (b.1, b.2.1 + c.2.1, b.2.2).1 from h)]
  · rw [gg_gt h, gg_gt k, gg_gt (show a.1 < c.1 by omega), gg_gt h]
def shf (c o : Int) (a : Tr) : Tr := (c + a.1, a.2.1, o + a.2.2)
theorem gg_shf (c o : Int) (a b : Tr) : gg (shf c o a) (shf c o b) = shf c o (gg a b) := by
  unfold gg shf
  simp only
  by_cases h1 : b.1 < a.1
  · rw [if_pos (by omega), if_pos h1]
  · rw [if_neg (by omega), if_neg h1]
    by_cases h2 : b.1 = a.1
    · rw [if_pos (by omega), if_pos h2]
    · rw [if_neg (by omega), if_neg h2]
/-- fold over s below k that are not in U -/
def gfo (U : Nat) (x : Nat → Tr) (e : Tr) : Nat → Tr
  | 0 => e
  | k + 1 => if bt U k = 0 then gg (gfo U x e k) (x k) else gfo U x e k
def dpt (μ : fm_Mem) (n : Nat) : Nat → Nat → Tr
  | 0, _ => (0, 1, 0)
  | r + 1, U => gfo U (fun s => shf (dsm μ U s n) ((s : Int) * 8 ^ (n - (r + 1))) (dpt μ n r (U + 2 ^ s))) (1000000, 0, 0) n
def ocs (μ : fm_Mem) (n : Nat) : Nat → Nat → Nat → Int
  | 0, _, _ => 0
  | r + 1, U, x => dsm μ U (pick U (x / fct r)) n + ocs μ n r (U + 2 ^ pick U (x / fct r)) (x % fct r)
def ocd (n : Nat) : Nat → Nat → Nat → Int
  | 0, _, _ => 0
  | r + 1, U, x => (pick U (x / fct r) : Int) * 8 ^ (n - (r + 1)) + ocd n r (U + 2 ^ pick U (x / fct r)) (x % fct r)
/-- fold over the first k numbers -/
def fld (x : Nat → Tr) (e : Tr) : Nat → Tr
  | 0 => e
  | k + 1 => gg (fld x e k) (x k)
theorem fld_add (x : Nat → Tr) (e : Tr) (a : Nat) : ∀ b, fld x e (a + b) = fld (fun k => x (a + k)) (fld x e a) b
  | 0 => rfl
  | b + 1 => by rw [show a + (b + 1) = (a + b) + 1 by omega, fld, fld, fld_add x e a b]
theorem fld_cong {x y : Nat → Tr} {e : Tr} : ∀ k, (∀ i, i < k → x i = y i) → fld x e k = fld y e k
  | 0, _ => rfl
  | k + 1, h => by rw [fld, fld, fld_cong k (fun i hi => h i (by omega)), h k (by omega)]
theorem fld_blk (x : Nat → Tr) (y : Nat → Tr) (f : Nat) : ∀ (m : Nat) (e : Tr), (∀ a, a < m → ∀ st : Tr, st.1 < 1000000 → fld (fun k => x (a * f + k)) st f = gg st (y a)) → (∀ a, a < m → (y a).1 < 1000000) → e.1 < 1000000 → fld x e (m * f) = fld y e m ∧ (fld y e m).1 < 1000000
  | 0, e, _, _, he => by rw [Nat.zero_mul]; exact ⟨rfl, he⟩
  | m + 1, e, hb, hy, he => by
    obtain ⟨h1, h2⟩ := fld_blk x y f m e (fun a ha => hb a (by omega)) (fun a ha => hy a (by omega)) he
    rw [Nat.succ_mul, fld_add, h1, hb m (by omega) _ h2, fld]
    refine ⟨rfl, ?_⟩
    unfold gg
    split
    · exact hy m (by omega)
    · split
      · exact h2
      · exact h2
/-- the numbers in turn, and the shots in turn -/
theorem fld_gfo (U : Nat) (hU : U < 64) (x : Nat → Tr) (e : Tr) : ∀ k, k < 7 → fld (fun a => x (pick U a)) e (k - pcn U k) = gfo U x e k
  | 0, _ => rfl
  | k + 1, hk => by
    have ih := fld_gfo U hU x e k (by omega)
    have hp := pcn_le U k
    rw [pcn, gfo]
    rcases bt_c U k with h | h
    · rw [h, if_pos rfl, show k + 1 - (pcn U k + 0) = (k - pcn U k) + 1 by omega, fld, ih, pick_r U hU k (by omega) h]
    · rw [h, if_neg (by omega), show k + 1 - (pcn U k + 1) = k - pcn U k by omega, ih]
theorem gfo_shf (U : Nat) (x : Nat → Tr) (st : Tr) (c o : Int) (hc : 0 ≤ c) (hs : st.1 < 1000000) : ∀ k, gfo U (fun s => shf c o (x s)) st k = gg st (shf c o (gfo U x (1000000, 0, 0) k))
  | 0 => by
    rw [gfo, gfo]
    unfold gg shf
    simp only
    rw [if_neg (by omega), if_neg (by omega)]
  | k + 1 => by
    rw [gfo, gfo, gfo_shf U x st c o hc hs k]
    split
    · rw [gg_assoc, gg_shf]
    · rfl
theorem gfo_cong {U : Nat} {x y : Nat → Tr} {e : Tr} : ∀ k, (∀ s, s < k → bt U s = 0 → x s = y s) → gfo U x e k = gfo U y e k
  | 0, _ => rfl
  | k + 1, h => by
    rw [gfo, gfo, gfo_cong k (fun s hs => h s (by omega))]
    split
    · rename_i q
      rw [h k (by omega) q]
    · rfl
theorem cuw_b {μ : fm_Mem} (hf : fi μ) (a b : Int) : ∀ k, 0 ≤ cuw μ a b k ∧ cuw μ a b k ≤ 100 * (k : Int)
  | 0 => by rw [cuw]; omega
  | k + 1 => by
    have := cuw_b hf a b k
    have := (hf.2.2.2.2.2.2.2.2.2.2.2.2.1 k).2.2
    rw [cuw]
    split <;> omega
theorem dsm_b {μ : fm_Mem} (hf : fi μ) (U s : Nat) : ∀ t, 0 ≤ dsm μ U s t ∧ dsm μ U s t ≤ 2000 * (t : Int)
  | 0 => by rw [dsm]; omega
  | t + 1 => by
    have h1 := dsm_b hf U s t
    have h2 := cuw_b hf s t (μ 0 12).toNat
    have h3 := hf.2.2.2.2.2.2.2.2.2.2.2.1
    rw [dsm]
    split <;> omega
/-- a fold that meets somebody -/
theorem gfo_b {U : Nat} {x : Nat → Tr} {A : Int} (hx : ∀ s, 0 ≤ (x s).1 ∧ (x s).1 ≤ A) (hA : A < 1000000) : ∀ k, 0 ≤ (gfo U x (1000000, 0, 0) k).1 ∧ (gfo U x (1000000, 0, 0) k).1 ≤ 1000000 ∧ (pcn U k < k → (gfo U x (1000000, 0, 0) k).1 ≤ A)
  | 0 => by rw [gfo]; simp only; omega
  | k + 1 => by
    obtain ⟨i1, i2, i3⟩ := gfo_b (U := U) hx hA k
    have hk := hx k
    rw [gfo, pcn]
    rcases bt_c U k with h | h
    · rw [h, if_pos rfl]
      unfold gg
      split
      · omega
      · split <;> (try simp only) <;> omega
    · rw [h, if_neg (by omega)]
      omega
theorem dpt_b {μ : fm_Mem} (hf : fi μ) {n : Nat} (hn : n < 7) : ∀ (r U : Nat), U < 2 ^ n → r + pcn U n = n → 0 ≤ (dpt μ n r U).1 ∧ (dpt μ n r U).1 ≤ 12000 * (r : Int)
  | 0, _, _, _ => by rw [dpt]; simp
  | r + 1, U, hU, hr => by
    have h64 := pow_64 n hn
    rw [dpt]
    have key : gfo U (fun s => shf (dsm μ U s n) ((s : Int) * 8 ^ (n - (r + 1))) (dpt μ n r (U + 2 ^ s))) (1000000, 0, 0) n = gfo U (fun s => if s < n ∧ bt U s = 0 then shf (dsm μ U s n) ((s : Int) * 8 ^ (n - (r + 1))) (dpt μ n r (U + 2 ^ s)) else (0, 0, 0)) (1000000, 0, 0) n := gfo_cong n (fun s hs hb => by rw [if_pos ⟨hs, hb⟩])
    rw [key]
    have hb := gfo_b (U := U) (x := fun s => if s < n ∧ bt U s = 0 then shf (dsm μ U s n) ((s : Int) * 8 ^ (n - (r + 1))) (dpt μ n r (U + 2 ^ s)) else (0, 0, 0)) (A := 12000 * ((r : Int) + 1)) (fun s => by
      split
      · rename_i q
        have h1 := dsm_b hf U s n
        have h2 := dpt_b hf hn r (U + 2 ^ s) (lt_add n hn U hU s q.1 q.2) (by rw [pcn_add U (by omega) n hn s q.1 q.2]; omega)
        unfold shf
        (try simp only)
        omega
      · (try simp only); omega) (by omega) n
    exact ⟨hb.1, by have := hb.2.2 (by omega); push_cast; omega⟩
/-- all the numbers at once -/
theorem fld_all {μ : fm_Mem} (hf : fi μ) {n : Nat} (hn : n < 7) : ∀ (r U : Nat), U < 2 ^ n → r + pcn U n = n → ∀ (c o : Int) (st : Tr), 0 ≤ c → c ≤ 12000 * (pcn U n : Int) → st.1 < 1000000 → fld (fun x => (c + ocs μ n r U x, 1, o + ocd n r U x)) st (fct r) = gg st (shf c o (dpt μ n r U))
  | 0, U, _, _, c, o, st, _, _, _ => by
    show gg st (c + ocs μ n 0 U 0, 1, o + ocd n 0 U 0) = gg st (shf c o (dpt μ n 0 U))
    rw [ocs, ocd, dpt]
    rfl
  | r + 1, U, hU, hr, c, o, st, hc, hc2, hs => by
    have h64 := pow_64 n hn
    have hfp := fct_pos r
    have hp := pcn_le U n
    -- a block for each pick
    have hblk : ∀ a, a < r + 1 → ∀ st : Tr, st.1 < 1000000 → fld (fun k => (c + ocs μ n (r + 1) U (a * fct r + k), 1, o + ocd n (r + 1) U (a * fct r + k))) st (fct r) = gg st (shf c o (shf (dsm μ U (pick U a) n) ((pick U a : Int) * 8 ^ (n - (r + 1))) (dpt μ n r (U + 2 ^ pick U a)))) := by
      intro a ha st hs
      obtain ⟨p1, p2⟩ := pick_o U (by omega) n hn a (by omega)
      have hd := dsm_b hf U (pick U a) n
      have ih := fld_all hf hn r (U + 2 ^ pick U a) (lt_add n hn U hU _ p1 p2) (by rw [pcn_add U (by omega) n hn _ p1 p2]; omega) (c + dsm μ U (pick U a) n) (o + (pick U a : Int) * 8 ^ (n - (r + 1))) st (by omega) (by rw [pcn_add U (by omega) n hn _ p1 p2]; push_cast; omega) hs
      rw [show shf c o (shf (dsm μ U (pick U a) n) ((pick U a : Int) * 8 ^ (n - (r + 1))) (dpt μ n r (U + 2 ^ pick U a))) = shf (c + dsm μ U (pick U a) n) (o + (pick U a : Int) * 8 ^ (n - (r + 1))) (dpt μ n r (U + 2 ^ pick U a)) by unfold shf; simp only [Int.add_assoc], ← ih]
      refine fld_cong _ (fun k hk => ?_)
      have e1 : (a * fct r + k) / fct r = a := by
        rw [Nat.mul_comm, Nat.mul_add_div hfp, Nat.div_eq_of_lt hk, Nat.add_zero]
      have e2 : (a * fct r + k) % fct r = k := by
        rw [Nat.mul_comm, Nat.mul_add_mod, Nat.mod_eq_of_lt hk]
      rw [ocs, ocd, e1, e2, Int.add_assoc, Int.add_assoc]
    have hyb : ∀ s, s < n → bt U s = 0 → (shf c o (shf (dsm μ U s n) ((s : Int) * 8 ^ (n - (r + 1))) (dpt μ n r (U + 2 ^ s)))).1 < 1000000 := by
      intro s h1 h2
      have hd := dsm_b hf U s n
      have hq := dpt_b hf hn r (U + 2 ^ s) (lt_add n hn U hU s h1 h2) (by rw [pcn_add U (by omega) n hn s h1 h2]; omega)
      show c + (dsm μ U s n + (dpt μ n r (U + 2 ^ s)).1) < 1000000
      omega
    obtain ⟨k1, -⟩ := fld_blk (fun x => (c + ocs μ n (r + 1) U x, 1, o + ocd n (r + 1) U x)) (fun a => shf c o (shf (dsm μ U (pick U a) n) ((pick U a : Int) * 8 ^ (n - (r + 1))) (dpt μ n r (U + 2 ^ pick U a)))) (fct r) (r + 1) st hblk (fun a ha => by
      obtain ⟨p1, p2⟩ := pick_o U (by omega) n hn a (by omega)
      exact hyb _ p1 p2) hs
    rw [fct, k1]
    have k2 := fld_gfo U (by omega) (fun s => shf c o (shf (dsm μ U s n) ((s : Int) * 8 ^ (n - (r + 1))) (dpt μ n r (U + 2 ^ s)))) st n hn
    rw [show n - pcn U n = r + 1 by omega] at k2
    rw [k2, dpt]
    exact gfo_shf U (fun s => shf (dsm μ U s n) ((s : Int) * 8 ^ (n - (r + 1))) (dpt μ n r (U + 2 ^ s))) st c o hc hs n
