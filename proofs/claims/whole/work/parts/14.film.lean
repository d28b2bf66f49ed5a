/-! the film: what both sides tell. μ by the numbers of km: 0 (copies 0, notes 7, cues 12, steps 16), 1 many, 2 mark, 3 wear, 4 camera, 5 shot, 6 rules, 7..10 notes, 11..13 cues, 14 15 steps -/
/-- what a film keeps -/
def fi (μ : fm_Mem) : Prop := (0 ≤ μ 0 0 ∧ μ 0 0 ≤ 6) ∧ (∀ c, c < 7 → 0 ≤ μ 1 c ∧ μ 1 c ≤ 40) ∧ (∀ c : Nat, c < 6 → μ 0 0 ≤ c → μ 1 c = 0) ∧ (∀ j, 0 ≤ μ 2 j ∧ μ 2 j ≤ 63) ∧ (∀ j, 0 ≤ μ 3 j ∧ μ 3 j ≤ 9) ∧ (∀ j, 0 ≤ μ 4 j ∧ μ 4 j ≤ 1) ∧ (∀ j, 0 ≤ μ 5 j ∧ μ 5 j ≤ 5) ∧ (∀ j, 0 ≤ μ 6 j ∧ μ 6 j ≤ 100) ∧ μ 6 0 ≤ 5
  ∧ (0 ≤ μ 0 7 ∧ μ 0 7 ≤ 12) ∧ (∀ j, fm_R (μ 7 j) ∧ fm_R (μ 8 j) ∧ fm_R (μ 9 j) ∧ 0 ≤ μ 10 j ∧ μ 10 j ≤ 9)
  ∧ (0 ≤ μ 0 12 ∧ μ 0 12 ≤ 20) ∧ (∀ j, (0 ≤ μ 11 j ∧ μ 11 j ≤ 5) ∧ (0 ≤ μ 12 j ∧ μ 12 j ≤ 5) ∧ 0 ≤ μ 13 j ∧ μ 13 j ≤ 100)
  ∧ (0 ≤ μ 0 16 ∧ μ 0 16 ≤ 30) ∧ (∀ j, (0 ≤ μ 14 j ∧ μ 14 j < 240) ∧ 0 ≤ μ 15 j ∧ μ 15 j ≤ 9)
/-- the weights of the cues from a to b among the first n -/
def cuw (μ : fm_Mem) (a b : Int) : Nat → Int
  | 0 => 0
  | k + 1 => cuw μ a b k + (if μ 11 k = a ∧ μ 12 k = b then μ 13 k else 0)
def relA (μ σ : fm_Mem) : Prop := σ 0 1 = μ 0 0 ∧ ∀ c : Nat, c < 6 → σ (27 + c) 3 = μ 1 c ∧ ∀ i : Nat, i < 40 → σ (33 + c) i = μ 2 (40 * c + i) ∧ σ (39 + c) i = μ 3 (40 * c + i) ∧ σ (45 + c) i = μ 4 (40 * c + i)
def relS (μ σ : fm_Mem) : Prop := σ 2 2 = μ 1 6 ∧ ∀ i : Nat, i < 40 → σ 3 i = μ 2 (240 + i) ∧ σ 4 i = μ 5 i
def relR (μ σ : fm_Mem) : Prop := ∀ i : Nat, i < 4 → σ 5 i = μ 6 i
def relN (μ σ : fm_Mem) : Prop := σ 13 4 = μ 0 7 ∧ ∀ k : Nat, k < 12 → σ 14 k = μ 7 k ∧ σ 15 k = μ 8 k ∧ σ 16 k = μ 9 k ∧ σ 17 k = μ 10 k
def relC (μ σ : fm_Mem) : Prop := σ 18 4 = μ 0 12 ∧ ∀ a b : Nat, a < 6 → b < 6 → σ (51 + a) b = cuw μ a b (μ 0 12).toNat
def relT (μ σ : fm_Mem) : Prop := σ 23 3 = μ 0 16 ∧ ∀ k : Nat, (k : Int) < μ 0 16 → 40 * σ 24 k + σ 25 k = μ 14 k ∧ (0 ≤ σ 24 k ∧ σ 24 k < 6) ∧ (0 ≤ σ 25 k ∧ σ 25 k < 40) ∧ σ 26 k = μ 15 k
def rel (μ σ : fm_Mem) : Prop := relA μ σ ∧ relS μ σ ∧ relR μ σ ∧ relN μ σ ∧ relC μ σ ∧ relT μ σ
theorem relA.cong {μ μ' σ σ' : fm_Mem} (h : relA μ σ) (h1 : σ' 0 1 = σ 0 1) (h2 : ∀ k j, 27 ≤ k → k < 51 → σ' k j = σ k j) (m1 : μ' 0 0 = μ 0 0) (m2 : ∀ j, j < 6 → μ' 1 j = μ 1 j) (m3 : ∀ k j, 2 ≤ k → k < 5 → j < 240 → μ' k j = μ k j) : relA μ' σ' := by
  obtain ⟨a, b⟩ := h
  refine ⟨by rw [h1, m1, a], fun c hc => ?_⟩
  obtain ⟨b1, b2⟩ := b c hc
  refine ⟨by rw [h2 _ _ (by omega) (by omega), m2 c hc, b1], fun i hi => ?_⟩
  obtain ⟨c1, c2, c3⟩ := b2 i hi
  rw [h2 _ _ (by omega) (by omega), h2 _ _ (by omega) (by omega), h2 _ _ (by omega) (by omega), m3 _ _ (by omega) (by omega) (by omega), m3 _ _ (by omega) (by omega) (by omega), m3 _ _ (by omega) (by omega) (by omega)]
  exact ⟨c1, c2, c3⟩
theorem relS.cong {μ μ' σ σ' : fm_Mem} (h : relS μ σ) (h1 : ∀ k j, 2 ≤ k → k < 5 → σ' k j = σ k j) (m1 : μ' 1 6 = μ 1 6) (m2 : ∀ j, 240 ≤ j → μ' 2 j = μ 2 j) (m3 : ∀ j, μ' 5 j = μ 5 j) : relS μ' σ' := by
  obtain ⟨a, b⟩ := h
  refine ⟨by rw [h1 _ _ (by omega) (by omega), m1, a], fun i hi => ?_⟩
  obtain ⟨b1, b2⟩ := b i hi
  rw [h1 _ _ (by omega) (by omega), h1 _ _ (by omega) (by omega), m2 _ (by omega), m3]
  exact ⟨b1, b2⟩
theorem relR.cong {μ μ' σ σ' : fm_Mem} (h : relR μ σ) (h1 : ∀ j, σ' 5 j = σ 5 j) (m1 : ∀ j, μ' 6 j = μ 6 j) : relR μ' σ' := fun i hi => by rw [h1, m1, h i hi]
theorem relN.cong {μ μ' σ σ' : fm_Mem} (h : relN μ σ) (h1 : ∀ k j, 13 ≤ k → k < 18 → σ' k j = σ k j) (m1 : μ' 0 7 = μ 0 7) (m2 : ∀ k j, 7 ≤ k → k < 11 → μ' k j = μ k j) : relN μ' σ' := by
  obtain ⟨a, b⟩ := h
  refine ⟨by rw [h1 _ _ (by omega) (by omega), m1, a], fun k hk => ?_⟩
  rw [h1 _ _ (by omega) (by omega), h1 _ _ (by omega) (by omega), h1 _ _ (by omega) (by omega), h1 _ _ (by omega) (by omega), m2 _ _ (by omega) (by omega), m2 _ _ (by omega) (by omega), m2 _ _ (by omega) (by omega), m2 _ _ (by omega) (by omega)]
  exact b k hk
theorem cuw_cong {μ μ' : fm_Mem} {a b : Int} : ∀ (n : Nat), (∀ k j, 11 ≤ k → k < 14 → j < n → μ' k j = μ k j) → cuw μ' a b n = cuw μ a b n
  | 0, _ => rfl
  | n + 1, h => by rw [cuw, cuw, cuw_cong n (fun k j h1 h2 h3 => h k j h1 h2 (by omega)), h 11 n (by omega) (by omega) (by omega), h 12 n (by omega) (by omega) (by omega), h 13 n (by omega) (by omega) (by omega)]
theorem relC.cong {μ μ' σ σ' : fm_Mem} (h : relC μ σ) (h0 : σ' 18 4 = σ 18 4) (h1 : ∀ k j, 51 ≤ k → k < 57 → σ' k j = σ k j) (m1 : μ' 0 12 = μ 0 12) (m2 : ∀ k j, 11 ≤ k → k < 14 → μ' k j = μ k j) : relC μ' σ' := by
  obtain ⟨a, b⟩ := h
  refine ⟨by rw [h0, m1, a], fun x y hx hy => ?_⟩
  rw [h1 _ _ (by omega) (by omega), m1, cuw_cong _ (fun k j q1 q2 _ => m2 k j q1 q2)]
  exact b x y hx hy
theorem relT.cong {μ μ' σ σ' : fm_Mem} (h : relT μ σ) (h1 : ∀ k j, 23 ≤ k → k < 27 → σ' k j = σ k j) (m1 : μ' 0 16 = μ 0 16) (m2 : ∀ k j, 14 ≤ k → k < 16 → μ' k j = μ k j) : relT μ' σ' := by
  obtain ⟨a, b⟩ := h
  refine ⟨by rw [h1 _ _ (by omega) (by omega), m1, a], fun k hk => ?_⟩
  rw [m1] at hk
  rw [h1 _ _ (by omega) (by omega), h1 _ _ (by omega) (by omega), h1 _ _ (by omega) (by omega), m2 _ _ (by omega) (by omega), m2 _ _ (by omega) (by omega)]
  exact b k hk
/-- the class's scratch cells -/
def scr (k : Nat) : Prop := k = 8 ∨ k = 9 ∨ k = 12 ∨ (20 ≤ k ∧ k ≤ 22) ∨ 57 ≤ k
def frm (σ σ' : fm_Mem) : Prop := ∀ k j, ¬ scr k → σ' k j = σ k j
def sam (μ μ' : fm_Mem) : Prop := ∀ k j, k < 16 → μ' k j = μ k j
theorem frm.rfl {σ : fm_Mem} : frm σ σ := fun _ _ _ => Eq.refl _
theorem frm.trans {a b c : fm_Mem} (h1 : frm a b) (h2 : frm b c) : frm a c := fun k j h => (h2 k j h).trans (h1 k j h)
theorem frm.up {a b : fm_Mem} {k j : Nat} {v : Int} (h : frm a b) (hk : scr k) : frm a (fm_up b k j v) := fun k2 j2 h2 => by
  have hne : k2 ≠ k := fun e => h2 (by rw [e]; exact hk)
  rw [fm_up_ne hne]
  exact h k2 j2 h2
theorem sam.rfl {σ : fm_Mem} : sam σ σ := fun _ _ _ => Eq.refl _
theorem sam.trans {a b c : fm_Mem} (h1 : sam a b) (h2 : sam b c) : sam a c := fun k j h => (h2 k j h).trans (h1 k j h)
theorem sam.up {a b : fm_Mem} {k j : Nat} {v : Int} (h : sam a b) (hk : 16 ≤ k) : sam a (fm_up b k j v) := fun k2 j2 h2 => by
  rw [fm_up_ne (by omega)]
  exact h k2 j2 h2
theorem rel.frm {μ σ σ' : fm_Mem} (h : rel μ σ) (hf : frm σ σ') : rel μ σ' := by
  obtain ⟨a, b, c, d, e, f⟩ := h
  have z : ∀ k j, ¬ scr k → σ' k j = σ k j := hf
  have s : ∀ {k}, (k < 8 ∨ k = 10 ∨ k = 11 ∨ (13 ≤ k ∧ k < 20) ∨ (23 ≤ k ∧ k < 57)) → ¬ scr k := fun {k} h1 h2 => by unfold scr at h2; omega
  exact ⟨a.cong (z _ _ (s (by omega))) (fun k j h1 h2 => z _ _ (s (by omega))) (Eq.refl _) (fun _ _ => Eq.refl _) (fun _ _ _ _ _ => Eq.refl _), b.cong (fun k j h1 h2 => z _ _ (s (by omega))) (Eq.refl _) (fun _ _ => Eq.refl _) (fun _ => Eq.refl _), c.cong (fun j => z _ _ (s (by omega))) (fun _ => Eq.refl _), d.cong (fun k j h1 h2 => z _ _ (s (by omega))) (Eq.refl _) (fun _ _ _ _ => Eq.refl _), e.cong (z _ _ (s (by omega))) (fun k j h1 h2 => z _ _ (s (by omega))) (Eq.refl _) (fun _ _ _ _ => Eq.refl _), f.cong (fun k j h1 h2 => z _ _ (s (by omega))) (Eq.refl _) (fun _ _ _ _ => Eq.refl _)⟩
theorem rel.sam {μ μ' σ : fm_Mem} (h : rel μ σ) (hf : sam μ μ') : rel μ' σ := by
  obtain ⟨a, b, c, d, e, f⟩ := h
  have z : ∀ k j, k < 16 → μ' k j = μ k j := hf
  exact ⟨a.cong (Eq.refl _) (fun _ _ _ _ => Eq.refl _) (z _ _ (by omega)) (fun _ _ => z _ _ (by omega)) (fun _ _ _ _ _ => z _ _ (by omega)), b.cong (fun _ _ _ _ => Eq.refl _) (z _ _ (by omega)) (fun _ _ => z _ _ (by omega)) (fun _ => z _ _ (by omega)), c.cong (fun _ => Eq.refl _) (fun _ => z _ _ (by omega)), d.cong (fun _ _ _ _ => Eq.refl _) (z _ _ (by omega)) (fun _ _ _ _ => z _ _ (by omega)), e.cong (Eq.refl _) (fun _ _ _ _ => Eq.refl _) (z _ _ (by omega)) (fun _ _ _ _ => z _ _ (by omega)), f.cong (fun _ _ _ _ => Eq.refl _) (z _ _ (by omega)) (fun _ _ _ _ => z _ _ (by omega))⟩
theorem rel.cw {μ σ : fm_Mem} (hi : fi μ) (h : rel μ σ) : cw σ := by
  obtain ⟨⟨a1, a2⟩, ⟨b1, b2⟩, c, -⟩ := h
  obtain ⟨i1, i2, i3, i4, i5, i6, i7, i8, i9, -⟩ := hi
  refine ⟨by rw [a1]; exact i1, fun c hc => ?_, by rw [b1]; exact i2 6 (by omega), fun c hc i hi => ?_, fun i hi => ?_, fun i hi => by rw [c i hi]; exact i8 i, by rw [c 0 (by omega)]; exact i9⟩
  · rw [(a2 c hc).1]; exact i2 c (by omega)
  · obtain ⟨q1, q2, q3⟩ := (a2 c hc).2 i hi
    rw [q1, q2, q3]
    exact ⟨i4 _, i5 _, i6 _⟩
  · obtain ⟨q1, q2⟩ := b2 i hi
    rw [q1, q2]
    exact ⟨i4 _, i7 _⟩
