/-! what the simple calls answer, and what the film is behind them -/
theorem fm_up_rel {σ μ : fm_Mem} {k j a b k' j' a' b' : Nat} {v v' : Int} (h : (a = k ∧ b = j) ↔ (a' = k' ∧ b' = j')) (hv : v = v') (e : σ a b = μ a' b') : fm_up σ k j v a b = fm_up μ k' j' v' a' b' := by
  unfold fm_up
  by_cases q : a = k ∧ b = j
  · rw [if_pos q, if_pos (h.mp q), hv]
  · rw [if_neg q, if_neg (fun z => q (h.mpr z)), e]
theorem fm_up_all {σ : fm_Mem} {k j a b : Nat} {v : Int} {p : Int → Prop} (hv : p v) (h : p (σ a b)) : p (fm_up σ k j v a b) := by
  unfold fm_up
  split
  · exact hv
  · exact h
abbrev isC (μ : fm_Mem) (c : Int) : Prop := 0 ≤ c ∧ c < μ 0 0
abbrev isF (μ : fm_Mem) (c i : Int) : Prop := 0 ≤ c ∧ c < μ 0 0 ∧ 0 ≤ i ∧ i < μ 1 c.toNat
abbrev inR (v a b : Int) : Prop := a ≤ v ∧ v ≤ b
def sp_copy (μ : fm_Mem) : Int × fm_Mem := if μ 0 0 = 6 then (-3, μ) else (μ 0 0, fm_up μ 0 0 (μ 0 0 + 1))
def lay (μ : fm_Mem) (c m v cam : Int) : fm_Mem := fm_up (fm_up (fm_up (fm_up μ 2 (40 * c + μ 1 c.toNat).toNat m) 3 (40 * c + μ 1 c.toNat).toNat v) 4 (40 * c + μ 1 c.toNat).toNat cam) 1 c.toNat (μ 1 c.toNat + 1)
def sp_frame (μ : fm_Mem) (c m v cam : Int) : Int × fm_Mem := if ¬ (isC μ c ∧ inR m 0 63 ∧ inR v 0 9 ∧ inR cam 0 1) then (-1, μ) else if μ 1 c.toNat = 40 then (-3, μ) else (μ 1 c.toNat + 1, lay μ c m v cam)
def sp_at (μ : fm_Mem) (c i what : Int) : Int := if ¬ (isF μ c i ∧ inR what 0 2) then -1 else if what = 0 then μ 2 (40 * c + i).toNat else if what = 1 then μ 3 (40 * c + i).toNat else μ 4 (40 * c + i).toNat
def kdrop (μ : fm_Mem) : fm_Mem := if μ 0 16 = 30 then (fun a b => if a = 0 ∧ b = 16 then 29 else if (a = 14 ∨ a = 15) ∧ b < 29 then μ a (b + 1) else μ a b) else μ
def kp (μ : fm_Mem) (q v : Int) : fm_Mem := fm_up (fm_up (fm_up (fm_up (kdrop μ) 14 (kdrop μ 0 16).toNat q) 15 (kdrop μ 0 16).toNat (μ 3 q.toNat)) 0 16 (kdrop μ 0 16 + 1)) 3 q.toNat v
def sp_wear (μ : fm_Mem) (c i v : Int) : Int × fm_Mem := if ¬ (isF μ c i ∧ inR v 0 9) then (-1, μ) else (μ 3 (40 * c + i).toNat, kp μ (40 * c + i) v)
def sp_place (μ : fm_Mem) (m s : Int) : Int × fm_Mem := if ¬ (inR m 0 63 ∧ inR s 0 5) then (-1, μ) else if μ 1 6 = 40 then (-3, μ) else (μ 1 6 + 1, fm_up (fm_up (fm_up μ 2 (240 + μ 1 6).toNat m) 5 (μ 1 6).toNat s) 1 6 (μ 1 6 + 1))
def sp_noScript (μ : fm_Mem) : Int × fm_Mem := (μ 1 6, fm_up μ 1 6 0)
def sp_rule (μ : fm_Mem) (what v : Int) : Int × fm_Mem := if ¬ (inR what 0 3 ∧ inR v 0 (if what = 0 then 5 else 100)) then (-1, μ) else (μ 6 what.toNat, fm_up μ 6 what.toNat v)
def sp_note (μ : fm_Mem) (c a b t : Int) : Int × fm_Mem := if ¬ (isF μ c a ∧ isF μ c b ∧ a ≤ b ∧ inR t 1 9) then (-1, μ) else if μ 0 7 = 12 then (-3, μ) else (μ 0 7 + 1, fm_up (fm_up (fm_up (fm_up (fm_up μ 7 (μ 0 7).toNat c) 8 (μ 0 7).toNat a) 9 (μ 0 7).toNat b) 10 (μ 0 7).toNat t) 0 7 (μ 0 7 + 1))
def sp_cue (μ : fm_Mem) (a b v : Int) : Int × fm_Mem := if ¬ (inR a 0 5 ∧ inR b 0 5 ∧ a ≠ b ∧ inR v 1 100) then (-1, μ) else if μ 0 12 = 20 then (-3, μ) else (μ 0 12 + 1, fm_up (fm_up (fm_up (fm_up μ 11 (μ 0 12).toNat a) 12 (μ 0 12).toNat b) 13 (μ 0 12).toNat v) 0 12 (μ 0 12 + 1))
def sp_noCues (μ : fm_Mem) : Int × fm_Mem := (μ 0 12, fm_up μ 0 12 0)
def sp_undo (μ : fm_Mem) : Int × fm_Mem := if μ 0 16 = 0 then (-2, μ) else (μ 14 (μ 0 16 - 1).toNat / 40 * 100 + μ 14 (μ 0 16 - 1).toNat % 40, fm_up (fm_up μ 0 16 (μ 0 16 - 1)) 3 (μ 14 (μ 0 16 - 1).toNat).toNat (μ 15 (μ 0 16 - 1).toNat))
def sp_count (μ : fm_Mem) (w : Int) : Int := if w = 0 then μ 0 0 else if w = 1 then μ 1 6 else if w = 2 then μ 0 7 else if w = 3 then μ 0 12 else if w = 4 then μ 0 16 else -1
-- the relation stays
theorem rel_copy {μ σ : fm_Mem} {v : Int} (h : rel μ σ) : rel (fm_up μ 0 0 v) (fm_up σ 0 1 v) := by
  obtain ⟨a, b, c, d, e, f⟩ := h
  refine ⟨⟨by rw [fm_up_eq, fm_up_eq], fun c hc => ?_⟩, b.cong ?_ ?_ ?_ ?_, c.cong ?_ ?_, d.cong ?_ ?_ ?_, e.cong ?_ ?_ ?_ ?_, f.cong ?_ ?_ ?_⟩
  · simp (disch := omega) only [fm_up_ne, fm_up_nj]
    exact a.2 c hc
  all_goals (intros; simp (disch := omega) only [fm_up_ne, fm_up_nj])
theorem rel_lay {μ σ : fm_Mem} {c : Int} {m v cam : Int} (h : rel μ σ) (hc : 0 ≤ c ∧ c < 6) (hn : 0 ≤ μ 1 c.toNat ∧ μ 1 c.toNat < 40) : rel (lay μ c m v cam) (fm_up (fm_up (fm_up (fm_up σ (33 + c.toNat) (σ (27 + c.toNat) 3).toNat m) (39 + c.toNat) (σ (27 + c.toNat) 3).toNat v) (45 + c.toNat) (σ (27 + c.toNat) 3).toNat cam) (27 + c.toNat) 3 (σ (27 + c.toNat) 3 + 1)) := by
  obtain ⟨a, b, d, e, f, g⟩ := h
  have hs := (a.2 c.toNat (by omega)).1
  unfold lay
  rw [hs]
  refine ⟨⟨?_, fun x hx => ⟨?_, fun i hi => ⟨?_, ?_, ?_⟩⟩⟩, b.cong ?_ ?_ ?_ ?_, d.cong ?_ ?_, e.cong ?_ ?_ ?_, f.cong ?_ ?_ ?_ ?_, g.cong ?_ ?_ ?_⟩
  · simp (disch := omega) only [fm_up_ne, fm_up_nj]
    exact a.1
  · refine fm_up_rel (by omega) rfl ?_
    simp (disch := omega) only [fm_up_ne]
    exact (a.2 x hx).1
  · simp (disch := omega) only [fm_up_ne]
    exact fm_up_rel (by omega) rfl ((a.2 x hx).2 i hi).1
  · simp (disch := omega) only [fm_up_ne]
    refine fm_up_rel (by omega) rfl ?_
    simp (disch := omega) only [fm_up_ne]
    exact ((a.2 x hx).2 i hi).2.1
  · simp (disch := omega) only [fm_up_ne]
    refine fm_up_rel (by omega) rfl ?_
    simp (disch := omega) only [fm_up_ne]
    exact ((a.2 x hx).2 i hi).2.2
  all_goals (intros; simp (disch := omega) only [fm_up_ne, fm_up_nj])
theorem rel_place {μ σ : fm_Mem} {m s : Int} (h : rel μ σ) (hn : 0 ≤ μ 1 6 ∧ μ 1 6 < 40) : rel (fm_up (fm_up (fm_up μ 2 (240 + μ 1 6).toNat m) 5 (μ 1 6).toNat s) 1 6 (μ 1 6 + 1)) (fm_up (fm_up (fm_up σ 3 (σ 2 2).toNat m) 4 (σ 2 2).toNat s) 2 2 (σ 2 2 + 1)) := by
  obtain ⟨a, b, d, e, f, g⟩ := h
  rw [b.1]
  refine ⟨a.cong ?_ ?_ ?_ ?_ ?_, ⟨?_, fun i hi => ⟨?_, ?_⟩⟩, d.cong ?_ ?_, e.cong ?_ ?_ ?_, f.cong ?_ ?_ ?_ ?_, g.cong ?_ ?_ ?_⟩
  case refine_6 => rw [fm_up_eq, fm_up_eq]
  case refine_7 =>
    simp (disch := omega) only [fm_up_ne]
    exact fm_up_rel (by omega) rfl (b.2 i hi).1
  case refine_8 =>
    simp (disch := omega) only [fm_up_ne]
    refine fm_up_rel (by omega) rfl ?_
    simp (disch := omega) only [fm_up_ne]
    exact (b.2 i hi).2
  all_goals (intros; simp (disch := omega) only [fm_up_ne, fm_up_nj])
theorem rel_noScript {μ σ : fm_Mem} (h : rel μ σ) : rel (fm_up μ 1 6 0) (fm_up σ 2 2 0) := by
  obtain ⟨a, b, d, e, f, g⟩ := h
  refine ⟨a.cong ?_ ?_ ?_ ?_ ?_, ⟨by rw [fm_up_eq, fm_up_eq], fun i hi => ?_⟩, d.cong ?_ ?_, e.cong ?_ ?_ ?_, f.cong ?_ ?_ ?_ ?_, g.cong ?_ ?_ ?_⟩
  case refine_6 =>
    simp (disch := omega) only [fm_up_ne]
    exact b.2 i hi
  all_goals (intros; simp (disch := omega) only [fm_up_ne, fm_up_nj])
theorem rel_rule {μ σ : fm_Mem} {w v : Int} (h : rel μ σ) : rel (fm_up μ 6 w.toNat v) (fm_up σ 5 w.toNat v) := by
  obtain ⟨a, b, d, e, f, g⟩ := h
  refine ⟨a.cong ?_ ?_ ?_ ?_ ?_, b.cong ?_ ?_ ?_ ?_, fun i hi => ?_, e.cong ?_ ?_ ?_, f.cong ?_ ?_ ?_ ?_, g.cong ?_ ?_ ?_⟩
  case refine_10 => exact fm_up_rel (by omega) rfl (d i hi)
  all_goals (intros; simp (disch := omega) only [fm_up_ne, fm_up_nj])
theorem rel_note {μ σ : fm_Mem} {c x y t : Int} (h : rel μ σ) (hn : 0 ≤ μ 0 7 ∧ μ 0 7 < 12) : rel (fm_up (fm_up (fm_up (fm_up (fm_up μ 7 (μ 0 7).toNat c) 8 (μ 0 7).toNat x) 9 (μ 0 7).toNat y) 10 (μ 0 7).toNat t) 0 7 (μ 0 7 + 1)) (fm_up (fm_up (fm_up (fm_up (fm_up σ 14 (σ 13 4).toNat c) 15 (σ 13 4).toNat x) 16 (σ 13 4).toNat y) 17 (σ 13 4).toNat t) 13 4 (σ 13 4 + 1)) := by
  obtain ⟨a, b, d, e, f, g⟩ := h
  rw [e.1]
  refine ⟨a.cong ?_ ?_ ?_ ?_ ?_, b.cong ?_ ?_ ?_ ?_, d.cong ?_ ?_, ⟨by rw [fm_up_eq, fm_up_eq], fun k hk => ?_⟩, f.cong ?_ ?_ ?_ ?_, g.cong ?_ ?_ ?_⟩
  case refine_12 =>
    obtain ⟨e1, e2, e3, e4⟩ := e.2 k hk
    simp (disch := omega) only [fm_up_ne]
    refine ⟨fm_up_rel (by omega) rfl e1, fm_up_rel (by omega) rfl ?_, fm_up_rel (by omega) rfl ?_, fm_up_rel (by omega) rfl ?_⟩
    · simp (disch := omega) only [fm_up_ne]; exact e2
    · simp (disch := omega) only [fm_up_ne]; exact e3
    · simp (disch := omega) only [fm_up_ne]; exact e4
  all_goals (intros; simp (disch := omega) only [fm_up_ne, fm_up_nj])
theorem rel_cue {μ σ : fm_Mem} {x y v : Int} (h : rel μ σ) (hx : 0 ≤ x ∧ x < 6) (hy : 0 ≤ y ∧ y < 6) (hn : 0 ≤ μ 0 12 ∧ μ 0 12 < 20) : rel (fm_up (fm_up (fm_up (fm_up μ 11 (μ 0 12).toNat x) 12 (μ 0 12).toNat y) 13 (μ 0 12).toNat v) 0 12 (μ 0 12 + 1)) (fm_up (fm_up σ (51 + x.toNat) y.toNat (σ (51 + x.toNat) y.toNat + v)) 18 4 (σ 18 4 + 1)) := by
  obtain ⟨a, b, d, e, f, g⟩ := h
  rw [f.1]
  refine ⟨a.cong ?_ ?_ ?_ ?_ ?_, b.cong ?_ ?_ ?_ ?_, d.cong ?_ ?_, e.cong ?_ ?_ ?_, ⟨by rw [fm_up_eq, fm_up_eq], fun p q hp hq => ?_⟩, g.cong ?_ ?_ ?_⟩
  case refine_15 =>
    rw [fm_up_eq, show (μ 0 12 + 1).toNat = (μ 0 12).toNat + 1 by omega, cuw, cuw_cong (μ := μ) _ (fun k j h1 h2 h3 => by simp (disch := omega) only [fm_up_ne, fm_up_nj])]
    simp (disch := omega) only [fm_up_ne, fm_up_eq]
    unfold fm_up
    by_cases z : 51 + p = 51 + x.toNat ∧ q = y.toNat
    · have z1 : x.toNat = p := by omega
      have z2 : y.toNat = q := by omega
      rw [if_pos z, if_pos (by omega), z1, z2, f.2 p q hp hq]
    · rw [if_neg z, if_neg (by omega), f.2 p q hp hq]
      omega
  all_goals (intros; simp (disch := omega) only [fm_up_ne, fm_up_nj])
theorem rel_noCues {μ σ : fm_Mem} (h : rel μ σ) : rel (fm_up μ 0 12 0) (fm_up (cu_cl σ 6) 18 4 0) := by
  obtain ⟨a, b, d, e, f, g⟩ := h
  refine ⟨a.cong ?_ ?_ ?_ ?_ ?_, b.cong ?_ ?_ ?_ ?_, d.cong ?_ ?_, e.cong ?_ ?_ ?_, ⟨by rw [fm_up_eq, fm_up_eq], fun p q hp hq => ?_⟩, g.cong ?_ ?_ ?_⟩
  case refine_15 =>
    rw [fm_up_eq]
    simp (disch := omega) only [fm_up_ne]
    unfold cu_cl
    rw [if_pos (by omega)]
    rfl
  all_goals (intros; simp (disch := omega) only [fm_up_ne, fm_up_nj])
  all_goals (unfold cu_cl; rw [if_neg (by omega)])
-- steps
theorem kdrop_n {μ : fm_Mem} (h : 0 ≤ μ 0 16 ∧ μ 0 16 ≤ 30) : 0 ≤ kdrop μ 0 16 ∧ kdrop μ 0 16 ≤ 29 := by
  unfold kdrop
  split
  · simp
  · omega
theorem kdrop_o {μ : fm_Mem} {a b : Nat} (h1 : ¬ (a = 0 ∧ b = 16)) (h2 : a ≠ 14) (h3 : a ≠ 15) : kdrop μ a b = μ a b := by
  unfold kdrop
  split
  · simp only
    rw [if_neg h1, if_neg (by omega)]
  · rfl
theorem st_drop_o {σ : fm_Mem} {a b : Nat} (h1 : a < 23 ∨ 27 ≤ a) : st_drop σ a b = σ a b := by
  unfold st_drop
  split
  · simp (disch := omega) only [fm_mv_ne, fm_up_ne]
  · rfl
theorem relT_drop {μ σ : fm_Mem} (h : relT μ σ) (hb : 0 ≤ μ 0 16 ∧ μ 0 16 ≤ 30) : relT (kdrop μ) (st_drop σ) := by
  obtain ⟨h1, h2⟩ := h
  unfold kdrop st_drop
  rw [h1]
  by_cases e : μ 0 16 = 30
  · rw [if_pos e, if_pos e]
    refine ⟨by simp [fm_mv, fm_up], fun k hk => ?_⟩
    simp at hk
    obtain ⟨q1, q2, q3, q4⟩ := h2 (k + 1) (by omega)
    have z1 : fm_mv (fm_mv (fm_mv (fm_up σ 23 3 29) 24 1 0 29) 25 1 0 29) 26 1 0 29 24 k = σ 24 (k + 1) := by
      simp only [fm_mv, fm_up]
      simp [show k < 29 by omega, Nat.add_comm]
    have z2 : fm_mv (fm_mv (fm_mv (fm_up σ 23 3 29) 24 1 0 29) 25 1 0 29) 26 1 0 29 25 k = σ 25 (k + 1) := by
      simp only [fm_mv, fm_up]
      simp [show k < 29 by omega, Nat.add_comm]
    have z3 : fm_mv (fm_mv (fm_mv (fm_up σ 23 3 29) 24 1 0 29) 25 1 0 29) 26 1 0 29 26 k = σ 26 (k + 1) := by
      simp only [fm_mv, fm_up]
      simp [show k < 29 by omega, Nat.add_comm]
    rw [z1, z2, z3]
    refine ⟨?_, q2, q3, ?_⟩
    · simpa [show k < 29 by omega] using q1
    · simpa [show k < 29 by omega] using q4
  · rw [if_neg e, if_neg e]
    exact ⟨h1, h2⟩
theorem rel_kp {μ σ : fm_Mem} {c i v : Int} (h : rel μ σ) (hc : 0 ≤ c ∧ c < 6) (hi : 0 ≤ i ∧ i < 40) (hb : 0 ≤ μ 0 16 ∧ μ 0 16 ≤ 30) : rel (kp μ (40 * c + i) v) (fm_up (st_keep σ c i (σ (39 + c.toNat) i.toNat)) (39 + c.toNat) i.toNat v) := by
  obtain ⟨a, b, d, e, f, g⟩ := h
  obtain ⟨g1, g2⟩ := relT_drop g hb
  obtain ⟨k1, k2⟩ := kdrop_n hb
  have hw : σ (39 + c.toNat) i.toNat = μ 3 (40 * c + i).toNat := by
    rw [((a.2 c.toNat (by omega)).2 i.toNat (by omega)).2.1]
    congr 1
    omega
  have A : relA (kdrop μ) (st_drop σ) := a.cong (st_drop_o (by omega)) (fun k j q1 q2 => st_drop_o (by omega)) (kdrop_o (by omega) (by omega) (by omega)) (fun j _ => kdrop_o (by omega) (by omega) (by omega)) (fun k j q1 q2 q3 => kdrop_o (by omega) (by omega) (by omega))
  unfold kp st_keep
  rw [g1, hw]
  refine ⟨⟨?_, fun x hx => ⟨?_, fun j hj => ⟨?_, ?_, ?_⟩⟩⟩, b.cong ?_ ?_ ?_ ?_, d.cong ?_ ?_, e.cong ?_ ?_ ?_, f.cong ?_ ?_ ?_ ?_, ⟨?_, fun k hk => ?_⟩⟩
  case refine_1 => simp (disch := omega) only [fm_up_ne, fm_up_nj]; exact A.1
  case refine_2 => simp (disch := omega) only [fm_up_ne, fm_up_nj]; exact (A.2 x hx).1
  case refine_3 => simp (disch := omega) only [fm_up_ne, fm_up_nj]; exact ((A.2 x hx).2 j hj).1
  case refine_4 =>
    refine fm_up_rel (by omega) rfl ?_
    simp (disch := omega) only [fm_up_ne, fm_up_nj]
    exact ((A.2 x hx).2 j hj).2.1
  case refine_5 => simp (disch := omega) only [fm_up_ne, fm_up_nj]; exact ((A.2 x hx).2 j hj).2.2
  case refine_19 => simp (disch := omega) only [fm_up_ne, fm_up_eq]
  case refine_20 =>
    have e1 : fm_up (fm_up (fm_up (fm_up (kdrop μ) 14 (kdrop μ 0 16).toNat (40 * c + i)) 15 (kdrop μ 0 16).toNat (μ 3 (40 * c + i).toNat)) 0 16 (kdrop μ 0 16 + 1)) 3 (40 * c + i).toNat v 0 16 = kdrop μ 0 16 + 1 := by
      simp (disch := omega) only [fm_up_ne, fm_up_eq]
    rw [e1] at hk
    by_cases z : k = (kdrop μ 0 16).toNat
    · subst z
      simp (disch := omega) only [fm_up_ne, fm_up_eq]
      exact ⟨trivial, hc, hi, trivial⟩
    · simp (disch := omega) only [fm_up_ne, fm_up_nj]
      exact g2 k (by omega)
  all_goals (intros; simp (disch := omega) only [fm_up_ne, fm_up_nj])
  all_goals first | exact st_drop_o (by omega) | exact kdrop_o (by omega) (by omega) (by omega)
theorem rel_undo {μ σ : fm_Mem} (h : rel μ σ) (hb : 0 < μ 0 16 ∧ μ 0 16 ≤ 30) : rel (fm_up (fm_up μ 0 16 (μ 0 16 - 1)) 3 (μ 14 (μ 0 16 - 1).toNat).toNat (μ 15 (μ 0 16 - 1).toNat)) (fm_up (fm_up σ 23 3 (μ 0 16 - 1)) (39 + (σ 24 (μ 0 16 - 1).toNat).toNat) (σ 25 (μ 0 16 - 1).toNat).toNat (σ 26 (μ 0 16 - 1).toNat)) := by
  obtain ⟨a, b, d, e, f, g⟩ := h
  obtain ⟨g1, g2⟩ := g
  obtain ⟨q1, q2, q3, q4⟩ := g2 (μ 0 16 - 1).toNat (by omega)
  rw [q4, ← q1]
  refine ⟨⟨?_, fun x hx => ⟨?_, fun j hj => ⟨?_, ?_, ?_⟩⟩⟩, b.cong ?_ ?_ ?_ ?_, d.cong ?_ ?_, e.cong ?_ ?_ ?_, f.cong ?_ ?_ ?_ ?_, ⟨?_, fun k hk => ?_⟩⟩
  case refine_1 => simp (disch := omega) only [fm_up_ne, fm_up_nj]; exact a.1
  case refine_2 => simp (disch := omega) only [fm_up_ne, fm_up_nj]; exact (a.2 x hx).1
  case refine_3 => simp (disch := omega) only [fm_up_ne, fm_up_nj]; exact ((a.2 x hx).2 j hj).1
  case refine_4 =>
    refine fm_up_rel (by omega) rfl ?_
    simp (disch := omega) only [fm_up_ne, fm_up_nj]
    exact ((a.2 x hx).2 j hj).2.1
  case refine_5 => simp (disch := omega) only [fm_up_ne, fm_up_nj]; exact ((a.2 x hx).2 j hj).2.2
  case refine_19 => simp (disch := omega) only [fm_up_ne, fm_up_eq]
  case refine_20 =>
    simp (disch := omega) only [fm_up_ne, fm_up_eq] at hk
    simp (disch := omega) only [fm_up_ne]
    exact g2 k (by omega)
  all_goals (intros; simp (disch := omega) only [fm_up_ne, fm_up_nj])
-- the film's bounds stay
def flo (k : Nat) : Int := if k = 7 ∨ k = 8 ∨ k = 9 then -2147483648 else 0
def fhi (k j : Nat) : Int := if k = 0 then (if j = 0 then 6 else if j = 7 then 12 else if j = 12 then 20 else if j = 16 then 30 else 0) else if k = 1 then 40 else if k = 2 then 63 else if k = 3 then 9 else if k = 4 then 1 else if k = 5 then 5 else if k = 6 then (if j = 0 then 5 else 100) else if k < 10 then 2147483647 else if k = 10 then 9 else if k < 13 then 5 else if k = 13 then 100 else if k = 14 then 239 else 9
def fj (μ : fm_Mem) : Prop := (∀ k j, k < 16 → flo k ≤ μ k j ∧ μ k j ≤ fhi k j) ∧ ∀ c : Nat, c < 6 → μ 0 0 ≤ c → μ 1 c = 0
theorem fj.fi {μ : fm_Mem} (h : fj μ) : fi μ := by
  obtain ⟨b, i3⟩ := h
  refine ⟨by simpa [flo, fhi] using b 0 0 (by omega), fun c _ => by simpa [flo, fhi] using b 1 c (by omega), i3, fun j => by simpa [flo, fhi] using b 2 j (by omega), fun j => by simpa [flo, fhi] using b 3 j (by omega), fun j => by simpa [flo, fhi] using b 4 j (by omega), fun j => by simpa [flo, fhi] using b 5 j (by omega), fun j => ?_, by simpa [flo, fhi] using (b 6 0 (by omega)).2, by simpa [flo, fhi] using b 0 7 (by omega), fun j => ?_, by simpa [flo, fhi] using b 0 12 (by omega), fun j => ⟨by simpa [flo, fhi] using b 11 j (by omega), by simpa [flo, fhi] using b 12 j (by omega), by simpa [flo, fhi] using b 13 j (by omega)⟩, by simpa [flo, fhi] using b 0 16 (by omega), fun j => ⟨?_, by simpa [flo, fhi] using b 15 j (by omega)⟩⟩
  · have := b 6 j (by omega)
    simp only [flo, fhi] at this
    simp at this
    split at this <;> omega
  · have h7 := b 7 j (by omega)
    have h8 := b 8 j (by omega)
    have h9 := b 9 j (by omega)
    have h10 := b 10 j (by omega)
    simp [flo, fhi] at h7 h8 h9 h10
    unfold fm_R
    omega
  · have := b 14 j (by omega)
    simp [flo, fhi] at this
    omega
theorem fj_up {μ : fm_Mem} {k j : Nat} {v : Int} (h : fj μ) (h1 : flo k ≤ v ∧ v ≤ fhi k j) (h2 : k = 1 → j < 6 → (j : Int) < μ 0 0) (h3 : k = 0 → j = 0 → μ 0 0 ≤ v) : fj (fm_up μ k j v) := by
  obtain ⟨b, i3⟩ := h
  refine ⟨fun x y hx => ?_, fun c hc hm => ?_⟩
  · unfold fm_up
    split
    · rename_i q
      rw [q.1, q.2]
      exact h1
    · exact b x y hx
  · have i4 := i3 c hc
    unfold fm_up at hm ⊢
    split at hm <;> split
    · omega
    · rename_i q1 q2
      have := h3 q1.1.symm q1.2.symm
      exact i4 (by omega)
    · rename_i q1 q2
      have := h2 q2.1.symm (by omega)
      omega
    · exact i4 hm
theorem fj_kdrop {μ : fm_Mem} (h : fj μ) : fj (kdrop μ) := by
  unfold kdrop
  split
  · obtain ⟨b, i3⟩ := h
    refine ⟨fun x y hx => ?_, fun c hc hm => ?_⟩
    · simp only
      split
      · rename_i q
        rw [q.1, q.2]
        simp [flo, fhi]
      · split
        · rename_i q
          have h9 := b x (y + 1) hx
          rcases q.1 with e | e
          · subst e; simpa [flo, fhi] using h9
          · subst e; simpa [flo, fhi] using h9
        · exact b x y hx
    · simp at hm ⊢
      exact i3 c hc hm
  · exact h
theorem fj_kp {μ : fm_Mem} {q v : Int} (h : fj μ) (hq : 0 ≤ q ∧ q < 240) (hv : 0 ≤ v ∧ v ≤ 9) : fj (kp μ q v) := by
  have hb := h.1 0 16 (by omega)
  simp [flo, fhi] at hb
  obtain ⟨k1, k2⟩ := kdrop_n hb
  have hw := h.1 3 q.toNat (by omega)
  simp [flo, fhi] at hw
  unfold kp
  refine fj_up (fj_up (fj_up (fj_up (fj_kdrop h) ?_ (by omega) (by omega)) ?_ (by omega) (by omega)) ?_ (by omega) (by omega)) ?_ (by omega) (by omega)
  · simp [flo, fhi]; omega
  · simp [flo, fhi]; omega
  · simp [flo, fhi]; omega
  · simp [flo, fhi]; omega
theorem fj_lay {μ : fm_Mem} {c m v cam : Int} (h : fj μ) (hc : 0 ≤ c ∧ c < μ 0 0) (hn : μ 1 c.toNat < 40) (h1 : 0 ≤ m ∧ m ≤ 63) (h2 : 0 ≤ v ∧ v ≤ 9) (h3 : 0 ≤ cam ∧ cam ≤ 1) : fj (lay μ c m v cam) := by
  have hb := h.1 1 c.toNat (by omega)
  simp [flo, fhi] at hb
  unfold lay
  refine fj_up (fj_up (fj_up (fj_up h ?_ (by omega) (by omega)) ?_ (by omega) (by omega)) ?_ (by omega) (by omega)) ?_ ?_ (by omega)
  · simp [flo, fhi]; omega
  · simp [flo, fhi]; omega
  · simp [flo, fhi]; omega
  · simp [flo, fhi]; omega
  · intro _ _
    simp (disch := omega) only [fm_up_ne]
    omega
theorem fj_sam {μ μ' : fm_Mem} (h : fj μ) (hs : sam μ μ') : fj μ' := by
  have z : ∀ k j, k < 16 → μ' k j = μ k j := hs
  refine ⟨fun x y hx => by rw [z x y hx]; exact h.1 x y hx, fun c hc hm => ?_⟩
  rw [z _ _ (by omega)] at hm ⊢
  exact h.2 c hc hm
