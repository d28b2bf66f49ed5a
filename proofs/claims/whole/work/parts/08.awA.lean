/-! fm_: a world of cells with fixed addresses whose ints are mathematical integers; a judgement fm_W over it; a row an instruction. -/
theorem fm_rng (x : Int32) : -2147483648 ≤ x.toInt ∧ x.toInt < 2147483648 := ⟨by have := x.le_toInt; simpa using this, by have := x.toInt_lt; simpa using this⟩
theorem fm_ofI {z : Int} (h1 : -2147483648 ≤ z) (h2 : z < 2147483648) : (Int32.ofInt z).toInt = z := by
  rw [Int32.toInt_ofInt]
  rw [Int.bmod_eq_of_le (by simp; omega) (by simp; omega)]
theorem fm_asI (x : Int32) : Int32.ofInt x.toInt = x := Int32.ofInt_toInt x
abbrev fm_R (z : Int) : Prop := -2147483648 ≤ z ∧ z < 2147483648
def fm_I (z : Int) : Value := .int (Int32.ofInt z)
theorem fm_I_of (x : Int32) : Value.int x = fm_I x.toInt := by rw [fm_I, fm_asI]
theorem fm_inj {x y : Int} (hx : fm_R x) (hy : fm_R y) (h : Int32.ofInt x = Int32.ofInt y) : x = y := by
  have := congrArg Int32.toInt h
  rwa [fm_ofI hx.1 hx.2, fm_ofI hy.1 hy.2] at this
theorem fm_lt {x y : Int} (hx : fm_R x) (hy : fm_R y) : Int32.ofInt x < Int32.ofInt y ↔ x < y := by
  rw [Int32.lt_iff_toInt_lt, fm_ofI hx.1 hx.2, fm_ofI hy.1 hy.2]
theorem fm_le {x y : Int} (hx : fm_R x) (hy : fm_R y) : Int32.ofInt x ≤ Int32.ofInt y ↔ x ≤ y := by
  rw [Int32.le_iff_toInt_le, fm_ofI hx.1 hx.2, fm_ofI hy.1 hy.2]
theorem fm_eq {x y : Int} (hx : fm_R x) (hy : fm_R y) : Int32.ofInt x = Int32.ofInt y ↔ x = y := ⟨fm_inj hx hy, fun h => by rw [h]⟩
theorem fm_z0 : (0 : Int32) = Int32.ofInt 0 := by decide
theorem fm_nat {z : Int} (h0 : 0 ≤ z) (h1 : z < 2147483648) : Int32.ofInt z = nI z.toNat := by
  apply Int32.toInt_inj.mp
  rw [fm_ofI (by omega) h1, nI_toInt (by omega)]
  omega
theorem fm_clamp {z : Int} (h0 : 0 ≤ z) (h1 : z < 2147483648) : (Int32.ofInt z).toNatClampNeg = z.toNat := by
  rw [fm_nat h0 h1, nI_clamp (by omega)]
theorem fm_vin {z : Int} {n : Nat} (hn : n < 2 ^ 31) (h0 : 0 ≤ z) (h1 : z < n) : vp_in (Int32.ofInt z) n := by
  rw [fm_nat h0 (by omega)]
  exact vp_in_nI (by omega) hn
-- the world
abbrev fm_Mem : Type := Nat → Nat → Int
def fm_up (σ : fm_Mem) (k j : Nat) (v : Int) : fm_Mem := fun a b => if a = k ∧ b = j then v else σ a b
abbrev fm_Sh : Type := Nat × (Nat → Nat ⊕ (Nat × Nat) ⊕ Nat) × (Nat → Nat → Nat) × (Nat → Nat) × (Nat → Nat → Bool)
abbrev fm_O : Type := Launch × va_G × (Nat → ClassId) × (Nat → Nat)
def fm_r (ω : fm_O) (k : Nat) : Value := .ref (ω.2.2.2 k)
def fm_tys (ct : Nat → ClassId) : List (ClassId × FieldType) := [(ct 0, .int), (ct 1, .object RX3), (ct 2, .array .int)]
def fm_e (S : fm_Sh) (ct : Nat → ClassId) (ad : Nat → Nat) (σ : fm_Mem) (k : Nat) : va_E :=
  match S.2.1 k with
  | .inl n => .inl (ct 0, n, .inl (fun j => Int32.ofInt (σ k j)))
  | .inr (.inl (t, n)) => .inl (ct t, n, .inr (.inr (.inr (.inr (fun j => some (ad (S.2.2.1 k j)))))))
  | .inr (.inr c) => .inr (c, (List.range (S.2.2.2.1 c)).map (fun j => if S.2.2.2.2 c j then Value.ref (ad (S.2.2.1 k j)) else Value.int (Int32.ofInt (σ k j))))
def fm_ws (S : fm_Sh) (ct : Nat → ClassId) (ad : Nat → Nat) (σ : fm_Mem) : va_W := (List.range S.1).map (fun k => (ad k, fm_e S ct ad σ k))
theorem fm_ws_at {S : fm_Sh} {ct : Nat → ClassId} {ad : Nat → Nat} {σ : fm_Mem} {k : Nat} (h : k < S.1) : (fm_ws S ct ad σ)[k]? = some (ad k, fm_e S ct ad σ k) := by
  unfold fm_ws
  rw [List.getElem?_map, List.getElem?_range h]
  rfl
theorem fm_ws_len {S : fm_Sh} {ct : Nat → ClassId} {ad : Nat → Nat} {σ : fm_Mem} : (fm_ws S ct ad σ).length = S.1 := by simp [fm_ws]
theorem fm_ws_some {S : fm_Sh} {ct : Nat → ClassId} {ad : Nat → Nat} {σ : fm_Mem} {k : Nat} {q : Nat × va_E} (h : (fm_ws S ct ad σ)[k]? = some q) : k < S.1 ∧ q = (ad k, fm_e S ct ad σ k) := by
  have hk : k < S.1 := by
    have := (List.getElem?_eq_some_iff.mp h).1
    rwa [fm_ws_len] at this
  rw [fm_ws_at hk] at h
  exact ⟨hk, (Option.some.inj h).symm⟩
theorem fm_ws_set {S : fm_Sh} {ct : Nat → ClassId} {ad : Nat → Nat} {σ σ' : fm_Mem} {k : Nat} {e' : va_E} (h : k < S.1) (he : e' = fm_e S ct ad σ' k) (ho : ∀ i, i ≠ k → fm_e S ct ad σ' i = fm_e S ct ad σ i) : (fm_ws S ct ad σ).set k (ad k, e') = fm_ws S ct ad σ' := by
  apply List.ext_getElem?
  intro i
  by_cases hi : i < S.1
  · rw [fm_ws_at hi]
    by_cases hk : i = k
    · subst hk
      rw [List.getElem?_set_self (by rw [fm_ws_len]; exact h), he]
    · rw [List.getElem?_set_ne (fun q => hk q.symm), fm_ws_at hi, ho i hk]
  · rw [List.getElem?_eq_none (by rw [List.length_set, fm_ws_len]; omega), List.getElem?_eq_none (by rw [fm_ws_len]; omega)]
def fm_A (S : fm_Sh) (ad : Nat → Nat) : Nat → Prop := fun q => ∃ k, k < S.1 ∧ q = ad k
theorem fm_D {S : fm_Sh} {ct : Nat → ClassId} {ad : Nat → Nat} {σ σ' : fm_Mem} {A B : Nat → Prop} (h : va_D A (fm_ws S ct ad σ)) (hB : ∀ k, k < S.1 → B (ad k)) : va_D B (fm_ws S ct ad σ') := by
  refine ⟨fun i j p q hi hj e => ?_, fun k q hk => ?_⟩
  · obtain ⟨h1, rfl⟩ := fm_ws_some hi
    obtain ⟨h2, rfl⟩ := fm_ws_some hj
    exact h.1 i j _ _ (fm_ws_at h1) (fm_ws_at h2) e
  · obtain ⟨h1, rfl⟩ := fm_ws_some hk
    exact hB k h1
theorem fm_e_up_ne {S : fm_Sh} {ct : Nat → ClassId} {ad : Nat → Nat} {σ : fm_Mem} {k j : Nat} {v : Int} {i : Nat} (h : i ≠ k) : fm_e S ct ad (fm_up σ k j v) i = fm_e S ct ad σ i := by
  have : ∀ b, fm_up σ k j v i b = σ i b := fun b => by simp [fm_up, h]
  unfold fm_e
  cases S.2.1 i with
  | inl n => simp [this]
  | inr x =>
    cases x with
    | inl y => rfl
    | inr c => simp [this]
-- what cells are
def fm_ia (S : fm_Sh) (k n : Nat) : Prop := k < S.1 ∧ S.2.1 k = .inl n ∧ n < 2 ^ 31
def fm_ra (S : fm_Sh) (k t n : Nat) : Prop := k < S.1 ∧ S.2.1 k = .inr (.inl (t, n)) ∧ n < 2 ^ 31 ∧ (t = 1 ∨ t = 2)
def fm_ob (S : fm_Sh) (k c : Nat) : Prop := k < S.1 ∧ S.2.1 k = .inr (.inr c)
theorem fm_e_ia {S : fm_Sh} {k n : Nat} (h : fm_ia S k n) (ct : Nat → ClassId) (ad : Nat → Nat) (σ : fm_Mem) : fm_e S ct ad σ k = .inl (ct 0, n, .inl (fun j => Int32.ofInt (σ k j))) := by
  unfold fm_e; rw [h.2.1]
theorem fm_e_ra {S : fm_Sh} {k t n : Nat} (h : fm_ra S k t n) (ct : Nat → ClassId) (ad : Nat → Nat) (σ : fm_Mem) : fm_e S ct ad σ k = .inl (ct t, n, .inr (.inr (.inr (.inr (fun j => some (ad (S.2.2.1 k j))))))) := by
  unfold fm_e; rw [h.2.1]
theorem fm_e_ob {S : fm_Sh} {k c : Nat} (h : fm_ob S k c) (ct : Nat → ClassId) (ad : Nat → Nat) (σ : fm_Mem) : fm_e S ct ad σ k = .inr (c, (List.range (S.2.2.2.1 c)).map (fun j => if S.2.2.2.2 c j then Value.ref (ad (S.2.2.1 k j)) else Value.int (Int32.ofInt (σ k j)))) := by
  unfold fm_e; rw [h.2]
-- locals by place
def fm_L (ls : Array Slot) (L : List (Option Value)) : Prop := ls.size = L.length ∧ lv_wf ls ∧ ∀ (i : Nat) (v : Value), L[i]? = some (some v) → ls[i]? = some (.val v)
def fm_al (L : List (Option Value)) : List (Nat × Value) := (List.range L.length).filterMap (fun i => (L[i]?.join).map (fun v => (i, v)))
theorem fm_al_mem {L : List (Option Value)} {q : Nat × Value} : q ∈ fm_al L ↔ L[q.1]? = some (some q.2) := by
  unfold fm_al
  rw [List.mem_filterMap]
  constructor
  · rintro ⟨i, -, h⟩
    cases hx : L[i]? with
    | none => rw [hx] at h; cases h
    | some o =>
      cases o with
      | none => rw [hx] at h; cases h
      | some v => rw [hx] at h; cases h; exact hx
  · intro h
    refine ⟨q.1, List.mem_range.mpr (List.getElem?_eq_some_iff.mp h).1, ?_⟩
    rw [h]
    rfl
theorem fm_L.has {ls : Array Slot} {L : List (Option Value)} (h : fm_L ls L) : lv_has ls L.length (fm_al L) := ⟨h.1, h.2.1, fun q hq => h.2.2 q.1 q.2 (fm_al_mem.mp hq)⟩
def fm_c1 : Option Value → Bool
  | none => true
  | some v => v.category == 1
/-- storing a value of one slot at place i -/
theorem fm_L.put {ls' : Array Slot} {L : List (Option Value)} {i : Nat} {v : Value} (hi : i < L.length) (hc : ∀ j o, j + 1 = i → L[j]? = some o → fm_c1 o = true) (h : lv_has ls' L.length ((i, v) :: (fm_al L).filter (fun q => !(q.1 == i) && !(q.1 + 1 == i && q.2.category == 2)))) : fm_L ls' (L.set i (some v)) := by
  refine ⟨by rw [List.length_set]; exact h.1, h.2.1, fun j w hj => ?_⟩
  by_cases e : j = i
  · subst e
    rw [List.getElem?_set_self hi] at hj
    cases hj
    exact h.2.2 (j, v) List.mem_cons_self
  · rw [List.getElem?_set_ne (fun q => e q.symm)] at hj
    refine h.2.2 (j, w) (List.mem_cons_of_mem _ (List.mem_filter.mpr ⟨fm_al_mem.mpr hj, ?_⟩))
    simp only [Bool.and_eq_true, Bool.not_eq_true', beq_eq_false_iff_ne, ne_eq, Bool.and_eq_false_iff]
    refine ⟨e, ?_⟩
    by_cases e2 : j + 1 = i
    · right
      have := hc j (some w) e2 hj
      simp only [fm_c1, beq_iff_eq] at this
      simp [this]
    · left
      exact e2
theorem fm_L.weak {ls : Array Slot} {L L' : List (Option Value)} (h : fm_L ls L) (hl : L'.length = L.length) (hs : ∀ (i : Nat) (v : Value), L'[i]? = some (some v) → L[i]? = some (some v)) : fm_L ls L' := ⟨by rw [hl]; exact h.1, h.2.1, fun i v hv => h.2.2 i v (hs i v hv)⟩
-- the judgement
abbrev fm_G : Type := Program × Env × State × MethodId × Array Value × List Frame × Method × Code
/-- a method: bytes, class, room, locals, what it returns -/
abbrev fm_M : Type := ByteArray × String × Room × Nat × Option FieldType
def fm_Qc (S : fm_Sh) (ω : fm_O) (P : Option Value → fm_Mem → Prop) : Array Value → State → Outcome → State → Prop := fun _ st o t => ∃ (v : Option Value) (σ' : fm_Mem), o = .returned v ∧ P v σ' ∧ va_P ω.2.1 vwCl (fm_ws S ω.2.2.1 ω.2.2.2 σ') t.heap ∧ va_F (fm_A S ω.2.2.2) st t
def fm_C (S : fm_Sh) (ω : fm_O) (Γ : fm_G) (M : fm_M) : Prop :=
  Γ.1.tables.exec = Jvm.exec ∧ Γ.2.2.2.2.2.2.2.code = M.1 ∧ Γ.2.2.2.2.2.2.2.maxLocals = M.2.2.2.1 ∧ Γ.2.2.1.vm.findClass M.2.1 = some Γ.2.2.2.1.cls ∧ (∀ w ∈ fm_T, w.before Γ.2.2.2.2.1 Γ.2.2.1 = true) ∧ Γ.2.2.2.2.2.2.1.sig.returnType = M.2.2.2.2 ∧ Γ.2.2.2.2.2.2.1.locks = false ∧ va_K ω.2.1 vwCl (fm_tys ω.2.2.1) Γ.2.2.1 ∧ va_D (fm_A S ω.2.2.2) (fm_ws S ω.2.2.1 ω.2.2.2 (fun _ _ => 0))
def fm_W (S : fm_Sh) (ω : fm_O) (Γ : fm_G) (M : fm_M) (P : Option Value → fm_Mem → Prop) (σ : fm_Mem) (pc : Nat) (L : List (Option Value)) (st : List Value) : Prop :=
  fm_C S ω Γ M → L.length = M.2.2.2.1 → ∀ (H : Heap) (locs : List Loc) (ls : Array Slot), va_P ω.2.1 vwCl (fm_ws S ω.2.2.1 ω.2.2.2 σ) H → va_S (fm_A S ω.2.2.2) Γ.2.2.1.heap H locs → fm_L ls L →
    W Γ.1 ω.1 Γ.2.1 M.2.2.1 Γ.2.2.1 Γ.2.2.2.1 Γ.2.2.2.2.1 Γ.2.2.2.2.2.1 Γ.2.2.2.2.2.2.1 Γ.2.2.2.2.2.2.2 H locs 0 0 (MQ Γ.2.2.2.2.2.1 (fm_Qc S ω P) Γ.2.2.2.2.1 Γ.2.2.1 0 0 (fm_A S ω.2.2.2)) (F0 Γ.2.2.2.1 pc ls st)
/-- a contract -/
def fm_Met (S : fm_Sh) (ω : fm_O) (y : MethodName) (cc : ByteArray) (n : Nat) (ret : Option FieldType) (rm : Room) (av : List Value) (σ : fm_Mem) (P : Option Value → fm_Mem → Prop) : Prop :=
  Met ω.1 y (Cond.code y cc n ret :: fm_T) rm (va_Pc av (fun U => va_P ω.2.1 vwCl (fm_ws S ω.2.2.1 ω.2.2.2 σ) U.heap ∧ va_K ω.2.1 vwCl (fm_tys ω.2.2.1) U ∧ va_D (fun _ => True) (fm_ws S ω.2.2.1 ω.2.2.2 (fun _ _ => 0)))) (fm_Qc S ω P) 0 0 (fm_A S ω.2.2.2)
def fm_rm (d : Nat) : Room := { frames := d, cells := 0, slots := 0, locals := 36 * d }
/-- the locals at the start -/
def fm_in : List Value → Nat → List (Option Value)
  | _, 0 => []
  | [], n + 1 => none :: fm_in [] n
  | v :: vs, n + 1 => if v.category = 2 then (match n with | 0 => [some v] | k + 1 => some v :: none :: fm_in vs k) else some v :: fm_in vs n

section FM
variable {S : fm_Sh} {ω : fm_O} {Γ : fm_G} {M : fm_M} {P : Option Value → fm_Mem → Prop} {σ : fm_Mem} {pc : Nat} {L : List (Option Value)} {st : List Value}
theorem fm_locs {L' : List (Option Value)} (hl : L'.length = L.length) (hs : ∀ (i : Nat) (v : Value), L'[i]? = some (some v) → L[i]? = some (some v)) (k : fm_W S ω Γ M P σ pc L' st) : fm_W S ω Γ M P σ pc L st :=
  fun C hL H locs ls hP hS hl0 => k C (hl.trans hL) H locs ls hP hS (hl0.weak hl hs)
theorem fm_stk {st' : List Value} (h : st = st') (k : fm_W S ω Γ M P σ pc L st') : fm_W S ω Γ M P σ pc L st := h ▸ k
theorem fm_top {z z' : Int} (h : z = z') (k : fm_W S ω Γ M P σ pc L (fm_I z' :: st)) : fm_W S ω Γ M P σ pc L (fm_I z :: st) := h ▸ k
theorem fm_nm {z : Int} (k : ∀ y : Int, y = z → fm_W S ω Γ M P σ pc L (fm_I y :: st)) : fm_W S ω Γ M P σ pc L (fm_I z :: st) := k z rfl

theorem fm_iconst {n : Int} (hd : decode M.1 pc = .ok (.iconst n, 1)) (k : fm_W S ω Γ M P σ (pc + 1) L (fm_I n :: st)) : fm_W S ω Γ M P σ pc L (st) := by
  intro C hL H locs ls hP hS hl
  obtain ⟨hx, hb, hml, hown, hts, hr, hlk, hK, hD⟩ := id C
  exact lv_iconst hx hb hd rfl (k C hL H locs ls hP hS hl)
theorem fm_bipush {n : Int} (hv : (Int8.ofInt n).toInt32 = Int32.ofInt n) (hd : decode M.1 pc = .ok (.bipush n, 2)) (k : fm_W S ω Γ M P σ (pc + 2) L (fm_I n :: st)) : fm_W S ω Γ M P σ pc L (st) := by
  intro C hL H locs ls hP hS hl
  obtain ⟨hx, hb, hml, hown, hts, hr, hlk, hK, hD⟩ := id C
  exact lv_bipush hx hb hd hv (k C hL H locs ls hP hS hl)
theorem fm_sipush {n : Int} (hv : (Int16.ofInt n).toInt32 = Int32.ofInt n) (hd : decode M.1 pc = .ok (.sipush n, 3)) (k : fm_W S ω Γ M P σ (pc + 3) L (fm_I n :: st)) : fm_W S ω Γ M P σ pc L (st) := by
  intro C hL H locs ls hP hS hl
  obtain ⟨hx, hb, hml, hown, hts, hr, hlk, hK, hD⟩ := id C
  exact lv_sipush hx hb hd hv (k C hL H locs ls hP hS hl)
theorem fm_ldc {index : Nat} {n : Int} {v : Int32} (hm : Cond.constant M.2.1 index v ∈ fm_T) (hv : v = Int32.ofInt n) (hd : decode M.1 pc = .ok (.ldc index, 2)) (k : fm_W S ω Γ M P σ (pc + 2) L (fm_I n :: st)) : fm_W S ω Γ M P σ pc L (st) := by
  intro C hL H locs ls hP hS hl
  obtain ⟨hx, hb, hml, hown, hts, hr, hlk, hK, hD⟩ := id C
  subst hv
  exact lv_ldc hx hb hown (hts _ hm) hd (k C hL H locs ls hP hS hl)
theorem fm_iadd {x y : Int} (hd : decode M.1 pc = .ok (.iadd, 1)) (k : fm_W S ω Γ M P σ (pc + 1) L (fm_I (x + y) :: st)) : fm_W S ω Γ M P σ pc L (fm_I y :: fm_I x :: st) := by
  intro C hL H locs ls hP hS hl
  obtain ⟨hx, hb, hml, hown, hts, hr, hlk, hK, hD⟩ := id C
  have k2 := k C hL H locs ls hP hS hl
  rw [fm_I, Int32.ofInt_add] at k2
  exact lv_iadd hx hb hd k2
theorem fm_isub {x y : Int} (hd : decode M.1 pc = .ok (.isub, 1)) (k : fm_W S ω Γ M P σ (pc + 1) L (fm_I (x - y) :: st)) : fm_W S ω Γ M P σ pc L (fm_I y :: fm_I x :: st) := by
  intro C hL H locs ls hP hS hl
  obtain ⟨hx, hb, hml, hown, hts, hr, hlk, hK, hD⟩ := id C
  have k2 := k C hL H locs ls hP hS hl
  rw [fm_I, Int32.ofInt_sub] at k2
  exact lv_isub hx hb hd k2
theorem fm_imul {x y : Int} (hd : decode M.1 pc = .ok (.imul, 1)) (k : fm_W S ω Γ M P σ (pc + 1) L (fm_I (x * y) :: st)) : fm_W S ω Γ M P σ pc L (fm_I y :: fm_I x :: st) := by
  intro C hL H locs ls hP hS hl
  obtain ⟨hx, hb, hml, hown, hts, hr, hlk, hK, hD⟩ := id C
  have k2 := k C hL H locs ls hP hS hl
  rw [fm_I, Int32.ofInt_mul] at k2
  exact lv_imul hx hb hd k2
theorem fm_ineg {x : Int} (hd : decode M.1 pc = .ok (.ineg, 1)) (k : fm_W S ω Γ M P σ (pc + 1) L (fm_I (-x) :: st)) : fm_W S ω Γ M P σ pc L (fm_I x :: st) := by
  intro C hL H locs ls hP hS hl
  obtain ⟨hx, hb, hml, hown, hts, hr, hlk, hK, hD⟩ := id C
  have k2 := k C hL H locs ls hP hS hl
  rw [fm_I, Int32.ofInt_neg] at k2
  exact lv_ineg hx hb hd k2
theorem fm_iand {x y : Int} (z : Int) (hz : Int32.ofInt x &&& Int32.ofInt y = Int32.ofInt z) (hd : decode M.1 pc = .ok (.iand, 1)) (k : fm_W S ω Γ M P σ (pc + 1) L (fm_I z :: st)) : fm_W S ω Γ M P σ pc L (fm_I y :: fm_I x :: st) := by
  intro C hL H locs ls hP hS hl
  obtain ⟨hx, hb, hml, hown, hts, hr, hlk, hK, hD⟩ := id C
  have k2 := k C hL H locs ls hP hS hl
  rw [fm_I, ← hz] at k2
  exact lv_iand hx hb hd k2
theorem fm_ior {x y : Int} (z : Int) (hz : Int32.ofInt x ||| Int32.ofInt y = Int32.ofInt z) (hd : decode M.1 pc = .ok (.ior, 1)) (k : fm_W S ω Γ M P σ (pc + 1) L (fm_I z :: st)) : fm_W S ω Γ M P σ pc L (fm_I y :: fm_I x :: st) := by
  intro C hL H locs ls hP hS hl
  obtain ⟨hx, hb, hml, hown, hts, hr, hlk, hK, hD⟩ := id C
  have k2 := k C hL H locs ls hP hS hl
  rw [fm_I, ← hz] at k2
  exact lv_ior hx hb hd k2
theorem fm_ishl {x y : Int} (z : Int) (hz : Int32.ofInt x <<< (Int32.ofInt y &&& 31) = Int32.ofInt z) (hd : decode M.1 pc = .ok (.ishl, 1)) (k : fm_W S ω Γ M P σ (pc + 1) L (fm_I z :: st)) : fm_W S ω Γ M P σ pc L (fm_I y :: fm_I x :: st) := by
  intro C hL H locs ls hP hS hl
  obtain ⟨hx, hb, hml, hown, hts, hr, hlk, hK, hD⟩ := id C
  have k2 := k C hL H locs ls hP hS hl
  rw [fm_I, ← hz] at k2
  exact lv_ishl hx hb hd k2
theorem fm_ishr {x y : Int} (z : Int) (hz : Int32.ofInt x >>> (Int32.ofInt y &&& 31) = Int32.ofInt z) (hd : decode M.1 pc = .ok (.ishr, 1)) (k : fm_W S ω Γ M P σ (pc + 1) L (fm_I z :: st)) : fm_W S ω Γ M P σ pc L (fm_I y :: fm_I x :: st) := by
  intro C hL H locs ls hP hS hl
  obtain ⟨hx, hb, hml, hown, hts, hr, hlk, hK, hD⟩ := id C
  have k2 := k C hL H locs ls hP hS hl
  rw [fm_I, ← hz] at k2
  exact lv_ishr hx hb hd k2
theorem fm_idiv {x y : Int} (z : Int) (h0 : ¬ Int32.ofInt y = 0) (hz : Int32.ofInt x / Int32.ofInt y = Int32.ofInt z) (hd : decode M.1 pc = .ok (.idiv, 1)) (k : fm_W S ω Γ M P σ (pc + 1) L (fm_I z :: st)) : fm_W S ω Γ M P σ pc L (fm_I y :: fm_I x :: st) := by
  intro C hL H locs ls hP hS hl
  obtain ⟨hx, hb, hml, hown, hts, hr, hlk, hK, hD⟩ := id C
  have k2 := k C hL H locs ls hP hS hl
  rw [fm_I, ← hz] at k2
  exact lv_idiv hx hb hd h0 k2
theorem fm_irem {x y : Int} (z : Int) (h0 : ¬ Int32.ofInt y = 0) (hz : Int32.ofInt x - Int32.ofInt x / Int32.ofInt y * Int32.ofInt y = Int32.ofInt z) (hd : decode M.1 pc = .ok (.irem, 1)) (k : fm_W S ω Γ M P σ (pc + 1) L (fm_I z :: st)) : fm_W S ω Γ M P σ pc L (fm_I y :: fm_I x :: st) := by
  intro C hL H locs ls hP hS hl
  obtain ⟨hx, hb, hml, hown, hts, hr, hlk, hK, hD⟩ := id C
  have k2 := k C hL H locs ls hP hS hl
  rw [fm_I, ← hz] at k2
  exact lv_irem hx hb hd h0 k2
theorem fm_pop {z : Int} (hd : decode M.1 pc = .ok (.pop, 1)) (k : fm_W S ω Γ M P σ (pc + 1) L (st)) : fm_W S ω Γ M P σ pc L (fm_I z :: st) := by
  intro C hL H locs ls hP hS hl
  obtain ⟨hx, hb, hml, hown, hts, hr, hlk, hK, hD⟩ := id C
  exact lv_pop hx hb hd rfl (k C hL H locs ls hP hS hl)
theorem fm_dupI {z : Int} (hd : decode M.1 pc = .ok (.dup, 1)) (k : fm_W S ω Γ M P σ (pc + 1) L (fm_I z :: fm_I z :: st)) : fm_W S ω Γ M P σ pc L (fm_I z :: st) := by
  intro C hL H locs ls hP hS hl
  obtain ⟨hx, hb, hml, hown, hts, hr, hlk, hK, hD⟩ := id C
  exact lv_dup hx hb hd rfl (k C hL H locs ls hP hS hl)
theorem fm_dupR {k0 : Nat} (hd : decode M.1 pc = .ok (.dup, 1)) (k : fm_W S ω Γ M P σ (pc + 1) L (fm_r ω k0 :: fm_r ω k0 :: st)) : fm_W S ω Γ M P σ pc L (fm_r ω k0 :: st) := by
  intro C hL H locs ls hP hS hl
  obtain ⟨hx, hb, hml, hown, hts, hr, hlk, hK, hD⟩ := id C
  exact lv_dup hx hb hd rfl (k C hL H locs ls hP hS hl)
theorem fm_dup2 {z : Int} {k0 : Nat} (hd : decode M.1 pc = .ok (.dup2, 1)) (k : fm_W S ω Γ M P σ (pc + 1) L (fm_I z :: fm_r ω k0 :: fm_I z :: fm_r ω k0 :: st)) : fm_W S ω Γ M P σ pc L (fm_I z :: fm_r ω k0 :: st) := by
  intro C hL H locs ls hP hS hl
  obtain ⟨hx, hb, hml, hown, hts, hr, hlk, hK, hD⟩ := id C
  exact lv_dup2_11 hx hb hd rfl rfl (k C hL H locs ls hP hS hl)
theorem fm_i2l {x : Int} (v : Int64) (hv : (Int32.ofInt x).toInt64 = v) (hd : decode M.1 pc = .ok (.i2l, 1)) (k : fm_W S ω Γ M P σ (pc + 1) L (.long v :: st)) : fm_W S ω Γ M P σ pc L (fm_I x :: st) := by
  intro C hL H locs ls hP hS hl
  obtain ⟨hx, hb, hml, hown, hts, hr, hlk, hK, hD⟩ := id C
  exact lv_i2l hx hb hd hv (k C hL H locs ls hP hS hl)
theorem fm_l2i {v : Int64} (z : Int) (hv : v.toInt32 = Int32.ofInt z) (hd : decode M.1 pc = .ok (.l2i, 1)) (k : fm_W S ω Γ M P σ (pc + 1) L (fm_I z :: st)) : fm_W S ω Γ M P σ pc L (.long v :: st) := by
  intro C hL H locs ls hP hS hl
  obtain ⟨hx, hb, hml, hown, hts, hr, hlk, hK, hD⟩ := id C
  exact lv_l2i hx hb hd hv (k C hL H locs ls hP hS hl)
theorem fm_land {x y : Int64} (hd : decode M.1 pc = .ok (.land, 1)) (k : fm_W S ω Γ M P σ (pc + 1) L (.long (x &&& y) :: st)) : fm_W S ω Γ M P σ pc L (.long y :: .long x :: st) := by
  intro C hL H locs ls hP hS hl
  obtain ⟨hx, hb, hml, hown, hts, hr, hlk, hK, hD⟩ := id C
  exact lv_land hx hb hd (k C hL H locs ls hP hS hl)
theorem fm_lor {x y : Int64} (hd : decode M.1 pc = .ok (.lor, 1)) (k : fm_W S ω Γ M P σ (pc + 1) L (.long (x ||| y) :: st)) : fm_W S ω Γ M P σ pc L (.long y :: .long x :: st) := by
  intro C hL H locs ls hP hS hl
  obtain ⟨hx, hb, hml, hown, hts, hr, hlk, hK, hD⟩ := id C
  exact lv_lor hx hb hd (k C hL H locs ls hP hS hl)
theorem fm_lshl {x : Int64} {y : Int} (v : Int64) (hv : x <<< ((Int32.ofInt y).toInt64 &&& 63) = v) (hd : decode M.1 pc = .ok (.lshl, 1)) (k : fm_W S ω Γ M P σ (pc + 1) L (.long v :: st)) : fm_W S ω Γ M P σ pc L (fm_I y :: .long x :: st) := by
  intro C hL H locs ls hP hS hl
  obtain ⟨hx, hb, hml, hown, hts, hr, hlk, hK, hD⟩ := id C
  exact lv_lshl hx hb hd hv (k C hL H locs ls hP hS hl)
theorem fm_lshr {x : Int64} {y : Int} (v : Int64) (hv : x >>> ((Int32.ofInt y).toInt64 &&& 63) = v) (hd : decode M.1 pc = .ok (.lshr, 1)) (k : fm_W S ω Γ M P σ (pc + 1) L (.long v :: st)) : fm_W S ω Γ M P σ pc L (fm_I y :: .long x :: st) := by
  intro C hL H locs ls hP hS hl
  obtain ⟨hx, hb, hml, hown, hts, hr, hlk, hK, hD⟩ := id C
  exact lv_lshr hx hb hd hv (k C hL H locs ls hP hS hl)
theorem fm_lushr {x : Int64} {y : Int} (v : Int64) (hv : (x.toUInt64 >>> ((Int32.ofInt y).toInt64.toUInt64 &&& Int64.toUInt64 63)).toInt64 = v) (hd : decode M.1 pc = .ok (.lushr, 1)) (k : fm_W S ω Γ M P σ (pc + 1) L (.long v :: st)) : fm_W S ω Γ M P σ pc L (fm_I y :: .long x :: st) := by
  intro C hL H locs ls hP hS hl
  obtain ⟨hx, hb, hml, hown, hts, hr, hlk, hK, hD⟩ := id C
  exact lv_lushr hx hb hd hv (k C hL H locs ls hP hS hl)
theorem fm_ldc2 {index : Nat} {v : Int64} (hm : Cond.constantLong M.2.1 index v ∈ fm_T) (hd : decode M.1 pc = .ok (.ldc2_w index, 3)) (k : fm_W S ω Γ M P σ (pc + 3) L (.long v :: st)) : fm_W S ω Γ M P σ pc L (st) := by
  intro C hL H locs ls hP hS hl
  obtain ⟨hx, hb, hml, hown, hts, hr, hlk, hK, hD⟩ := id C
  exact lv_ldc2 hx hb hown (hts _ hm) hd (k C hL H locs ls hP hS hl)
theorem fm_ild0 {x : Int} {t : List (Option Value)} (hd : decode M.1 pc = .ok (.iload_n 0, 1)) (k : fm_W S ω Γ M P σ (pc + 1) (some (fm_I x) :: t) (fm_I x :: st)) : fm_W S ω Γ M P σ pc (some (fm_I x) :: t) (st) := by
  intro C hL H locs ls hP hS hl
  obtain ⟨hx, hb, hml, hown, hts, hr, hlk, hK, hD⟩ := id C
  exact lv_iload_n hx hb hd rfl (hl.2.2 0 _ rfl) (k C hL H locs ls hP hS hl)
theorem fm_ald0 {x : Nat} {t : List (Option Value)} (hd : decode M.1 pc = .ok (.aload_n 0, 1)) (k : fm_W S ω Γ M P σ (pc + 1) (some (fm_r ω x) :: t) (fm_r ω x :: st)) : fm_W S ω Γ M P σ pc (some (fm_r ω x) :: t) (st) := by
  intro C hL H locs ls hP hS hl
  obtain ⟨hx, hb, hml, hown, hts, hr, hlk, hK, hD⟩ := id C
  exact lv_aload_n hx hb hd rfl (hl.2.2 0 _ rfl) (k C hL H locs ls hP hS hl)
theorem fm_lld0 {x : Int64} {t : List (Option Value)} (hd : decode M.1 pc = .ok (.lload_n 0, 1)) (k : fm_W S ω Γ M P σ (pc + 1) (some (.long x) :: t) (.long x :: st)) : fm_W S ω Γ M P σ pc (some (.long x) :: t) (st) := by
  intro C hL H locs ls hP hS hl
  obtain ⟨hx, hb, hml, hown, hts, hr, hlk, hK, hD⟩ := id C
  exact lv_lload_n hx hb hd rfl (hl.2.2 0 _ rfl) (k C hL H locs ls hP hS hl)
theorem fm_ist0 {o : Option Value} {x : Int} {t : List (Option Value)} (hd : decode M.1 pc = .ok (.istore_n 0, 1)) (k : fm_W S ω Γ M P σ (pc + 1) (some (fm_I x) :: t) (st)) : fm_W S ω Γ M P σ pc (o :: t) (fm_I x :: st) := by
  intro C hL H locs ls hP hS hl
  obtain ⟨hx, hb, hml, hown, hts, hr, hlk, hK, hD⟩ := id C
  refine lv_istore_n (i := 0) hx hb hd rfl hl.has (by simp) rfl (fun ls2 hl2 => ?_)
  have h9 : ∀ (j : Nat) (ow : Option Value), j + 1 = 0 → (o :: t)[j]? = some ow → fm_c1 ow = true := by
    intro j ow hj ho
    omega
  have hl3 := fm_L.put (L := o :: t) (i := 0) (by simp) h9 hl2
  exact k C hL H locs ls2 hP hS hl3
theorem fm_ast0 {o : Option Value} {x : Nat} {t : List (Option Value)} (hd : decode M.1 pc = .ok (.astore_n 0, 1)) (k : fm_W S ω Γ M P σ (pc + 1) (some (fm_r ω x) :: t) (st)) : fm_W S ω Γ M P σ pc (o :: t) (fm_r ω x :: st) := by
  intro C hL H locs ls hP hS hl
  obtain ⟨hx, hb, hml, hown, hts, hr, hlk, hK, hD⟩ := id C
  refine lv_astore_n (i := 0) hx hb hd rfl hl.has (by simp) rfl (fun ls2 hl2 => ?_)
  have h9 : ∀ (j : Nat) (ow : Option Value), j + 1 = 0 → (o :: t)[j]? = some ow → fm_c1 ow = true := by
    intro j ow hj ho
    omega
  have hl3 := fm_L.put (L := o :: t) (i := 0) (by simp) h9 hl2
  exact k C hL H locs ls2 hP hS hl3
theorem fm_inc0 {x n : Int} {t : List (Option Value)} (hd : decode M.1 pc = .ok (.iinc 0 n, 3)) (k : fm_W S ω Γ M P σ (pc + 3) (some (fm_I (x + n)) :: t) (st)) : fm_W S ω Γ M P σ pc (some (fm_I x) :: t) (st) := by
  intro C hL H locs ls hP hS hl
  obtain ⟨hx, hb, hml, hown, hts, hr, hlk, hK, hD⟩ := id C
  obtain ⟨q, hq⟩ := List.getElem?_of_mem (fm_al_mem (L := some (fm_I x) :: t) (q := (0, fm_I x)).mpr rfl)
  refine lv_iinc (v := Int32.ofInt (x + n)) hx hb hd hl.has (k := q) hq (Int32.ofInt_add x n).symm (by simp) rfl (fun ls2 hl2 => ?_)
  have h9 : ∀ (j : Nat) (ow : Option Value), j + 1 = 0 → (some (fm_I x) :: t)[j]? = some ow → fm_c1 ow = true := by
    intro j ow hj ho
    omega
  have hl3 := fm_L.put (L := some (fm_I x) :: t) (i := 0) (by simp) h9 hl2
  exact k C hL H locs ls2 hP hS hl3
theorem fm_ild1 {o0 : Option Value} {x : Int} {t : List (Option Value)} (hd : decode M.1 pc = .ok (.iload_n 1, 1)) (k : fm_W S ω Γ M P σ (pc + 1) (o0 :: some (fm_I x) :: t) (fm_I x :: st)) : fm_W S ω Γ M P σ pc (o0 :: some (fm_I x) :: t) (st) := by
  intro C hL H locs ls hP hS hl
  obtain ⟨hx, hb, hml, hown, hts, hr, hlk, hK, hD⟩ := id C
  exact lv_iload_n hx hb hd rfl (hl.2.2 1 _ rfl) (k C hL H locs ls hP hS hl)
theorem fm_ald1 {o0 : Option Value} {x : Nat} {t : List (Option Value)} (hd : decode M.1 pc = .ok (.aload_n 1, 1)) (k : fm_W S ω Γ M P σ (pc + 1) (o0 :: some (fm_r ω x) :: t) (fm_r ω x :: st)) : fm_W S ω Γ M P σ pc (o0 :: some (fm_r ω x) :: t) (st) := by
  intro C hL H locs ls hP hS hl
  obtain ⟨hx, hb, hml, hown, hts, hr, hlk, hK, hD⟩ := id C
  exact lv_aload_n hx hb hd rfl (hl.2.2 1 _ rfl) (k C hL H locs ls hP hS hl)
theorem fm_lld1 {o0 : Option Value} {x : Int64} {t : List (Option Value)} (hd : decode M.1 pc = .ok (.lload_n 1, 1)) (k : fm_W S ω Γ M P σ (pc + 1) (o0 :: some (.long x) :: t) (.long x :: st)) : fm_W S ω Γ M P σ pc (o0 :: some (.long x) :: t) (st) := by
  intro C hL H locs ls hP hS hl
  obtain ⟨hx, hb, hml, hown, hts, hr, hlk, hK, hD⟩ := id C
  exact lv_lload_n hx hb hd rfl (hl.2.2 1 _ rfl) (k C hL H locs ls hP hS hl)
theorem fm_ist1 {o0 : Option Value} {o : Option Value} {x : Int} {t : List (Option Value)} (hc : fm_c1 o0 = true) (hd : decode M.1 pc = .ok (.istore_n 1, 1)) (k : fm_W S ω Γ M P σ (pc + 1) (o0 :: some (fm_I x) :: t) (st)) : fm_W S ω Γ M P σ pc (o0 :: o :: t) (fm_I x :: st) := by
  intro C hL H locs ls hP hS hl
  obtain ⟨hx, hb, hml, hown, hts, hr, hlk, hK, hD⟩ := id C
  refine lv_istore_n (i := 1) hx hb hd rfl hl.has (by simp) rfl (fun ls2 hl2 => ?_)
  have h9 : ∀ (j : Nat) (ow : Option Value), j + 1 = 1 → (o0 :: o :: t)[j]? = some ow → fm_c1 ow = true := by
    intro j ow hj ho
    have hj9 : j = 0 := by omega
    subst hj9
    have e9 : o0 = ow := Option.some.inj ho
    rw [← e9]
    exact hc
  have hl3 := fm_L.put (L := o0 :: o :: t) (i := 1) (by simp) h9 hl2
  exact k C hL H locs ls2 hP hS hl3
theorem fm_ast1 {o0 : Option Value} {o : Option Value} {x : Nat} {t : List (Option Value)} (hc : fm_c1 o0 = true) (hd : decode M.1 pc = .ok (.astore_n 1, 1)) (k : fm_W S ω Γ M P σ (pc + 1) (o0 :: some (fm_r ω x) :: t) (st)) : fm_W S ω Γ M P σ pc (o0 :: o :: t) (fm_r ω x :: st) := by
  intro C hL H locs ls hP hS hl
  obtain ⟨hx, hb, hml, hown, hts, hr, hlk, hK, hD⟩ := id C
  refine lv_astore_n (i := 1) hx hb hd rfl hl.has (by simp) rfl (fun ls2 hl2 => ?_)
  have h9 : ∀ (j : Nat) (ow : Option Value), j + 1 = 1 → (o0 :: o :: t)[j]? = some ow → fm_c1 ow = true := by
    intro j ow hj ho
    have hj9 : j = 0 := by omega
    subst hj9
    have e9 : o0 = ow := Option.some.inj ho
    rw [← e9]
    exact hc
  have hl3 := fm_L.put (L := o0 :: o :: t) (i := 1) (by simp) h9 hl2
  exact k C hL H locs ls2 hP hS hl3
theorem fm_inc1 {o0 : Option Value} {x n : Int} {t : List (Option Value)} (hc : fm_c1 o0 = true) (hd : decode M.1 pc = .ok (.iinc 1 n, 3)) (k : fm_W S ω Γ M P σ (pc + 3) (o0 :: some (fm_I (x + n)) :: t) (st)) : fm_W S ω Γ M P σ pc (o0 :: some (fm_I x) :: t) (st) := by
  intro C hL H locs ls hP hS hl
  obtain ⟨hx, hb, hml, hown, hts, hr, hlk, hK, hD⟩ := id C
  obtain ⟨q, hq⟩ := List.getElem?_of_mem (fm_al_mem (L := o0 :: some (fm_I x) :: t) (q := (1, fm_I x)).mpr rfl)
  refine lv_iinc (v := Int32.ofInt (x + n)) hx hb hd hl.has (k := q) hq (Int32.ofInt_add x n).symm (by simp) rfl (fun ls2 hl2 => ?_)
  have h9 : ∀ (j : Nat) (ow : Option Value), j + 1 = 1 → (o0 :: some (fm_I x) :: t)[j]? = some ow → fm_c1 ow = true := by
    intro j ow hj ho
    have hj9 : j = 0 := by omega
    subst hj9
    have e9 : o0 = ow := Option.some.inj ho
    rw [← e9]
    exact hc
  have hl3 := fm_L.put (L := o0 :: some (fm_I x) :: t) (i := 1) (by simp) h9 hl2
  exact k C hL H locs ls2 hP hS hl3
theorem fm_ild2 {o0 o1 : Option Value} {x : Int} {t : List (Option Value)} (hd : decode M.1 pc = .ok (.iload_n 2, 1)) (k : fm_W S ω Γ M P σ (pc + 1) (o0 :: o1 :: some (fm_I x) :: t) (fm_I x :: st)) : fm_W S ω Γ M P σ pc (o0 :: o1 :: some (fm_I x) :: t) (st) := by
  intro C hL H locs ls hP hS hl
  obtain ⟨hx, hb, hml, hown, hts, hr, hlk, hK, hD⟩ := id C
  exact lv_iload_n hx hb hd rfl (hl.2.2 2 _ rfl) (k C hL H locs ls hP hS hl)
theorem fm_ald2 {o0 o1 : Option Value} {x : Nat} {t : List (Option Value)} (hd : decode M.1 pc = .ok (.aload_n 2, 1)) (k : fm_W S ω Γ M P σ (pc + 1) (o0 :: o1 :: some (fm_r ω x) :: t) (fm_r ω x :: st)) : fm_W S ω Γ M P σ pc (o0 :: o1 :: some (fm_r ω x) :: t) (st) := by
  intro C hL H locs ls hP hS hl
  obtain ⟨hx, hb, hml, hown, hts, hr, hlk, hK, hD⟩ := id C
  exact lv_aload_n hx hb hd rfl (hl.2.2 2 _ rfl) (k C hL H locs ls hP hS hl)
theorem fm_lld2 {o0 o1 : Option Value} {x : Int64} {t : List (Option Value)} (hd : decode M.1 pc = .ok (.lload_n 2, 1)) (k : fm_W S ω Γ M P σ (pc + 1) (o0 :: o1 :: some (.long x) :: t) (.long x :: st)) : fm_W S ω Γ M P σ pc (o0 :: o1 :: some (.long x) :: t) (st) := by
  intro C hL H locs ls hP hS hl
  obtain ⟨hx, hb, hml, hown, hts, hr, hlk, hK, hD⟩ := id C
  exact lv_lload_n hx hb hd rfl (hl.2.2 2 _ rfl) (k C hL H locs ls hP hS hl)
theorem fm_ist2 {o0 o1 : Option Value} {o : Option Value} {x : Int} {t : List (Option Value)} (hc : fm_c1 o1 = true) (hd : decode M.1 pc = .ok (.istore_n 2, 1)) (k : fm_W S ω Γ M P σ (pc + 1) (o0 :: o1 :: some (fm_I x) :: t) (st)) : fm_W S ω Γ M P σ pc (o0 :: o1 :: o :: t) (fm_I x :: st) := by
  intro C hL H locs ls hP hS hl
  obtain ⟨hx, hb, hml, hown, hts, hr, hlk, hK, hD⟩ := id C
  refine lv_istore_n (i := 2) hx hb hd rfl hl.has (by simp) rfl (fun ls2 hl2 => ?_)
  have h9 : ∀ (j : Nat) (ow : Option Value), j + 1 = 2 → (o0 :: o1 :: o :: t)[j]? = some ow → fm_c1 ow = true := by
    intro j ow hj ho
    have hj9 : j = 1 := by omega
    subst hj9
    have e9 : o1 = ow := Option.some.inj ho
    rw [← e9]
    exact hc
  have hl3 := fm_L.put (L := o0 :: o1 :: o :: t) (i := 2) (by simp) h9 hl2
  exact k C hL H locs ls2 hP hS hl3
theorem fm_ast2 {o0 o1 : Option Value} {o : Option Value} {x : Nat} {t : List (Option Value)} (hc : fm_c1 o1 = true) (hd : decode M.1 pc = .ok (.astore_n 2, 1)) (k : fm_W S ω Γ M P σ (pc + 1) (o0 :: o1 :: some (fm_r ω x) :: t) (st)) : fm_W S ω Γ M P σ pc (o0 :: o1 :: o :: t) (fm_r ω x :: st) := by
  intro C hL H locs ls hP hS hl
  obtain ⟨hx, hb, hml, hown, hts, hr, hlk, hK, hD⟩ := id C
  refine lv_astore_n (i := 2) hx hb hd rfl hl.has (by simp) rfl (fun ls2 hl2 => ?_)
  have h9 : ∀ (j : Nat) (ow : Option Value), j + 1 = 2 → (o0 :: o1 :: o :: t)[j]? = some ow → fm_c1 ow = true := by
    intro j ow hj ho
    have hj9 : j = 1 := by omega
    subst hj9
    have e9 : o1 = ow := Option.some.inj ho
    rw [← e9]
    exact hc
  have hl3 := fm_L.put (L := o0 :: o1 :: o :: t) (i := 2) (by simp) h9 hl2
  exact k C hL H locs ls2 hP hS hl3
theorem fm_inc2 {o0 o1 : Option Value} {x n : Int} {t : List (Option Value)} (hc : fm_c1 o1 = true) (hd : decode M.1 pc = .ok (.iinc 2 n, 3)) (k : fm_W S ω Γ M P σ (pc + 3) (o0 :: o1 :: some (fm_I (x + n)) :: t) (st)) : fm_W S ω Γ M P σ pc (o0 :: o1 :: some (fm_I x) :: t) (st) := by
  intro C hL H locs ls hP hS hl
  obtain ⟨hx, hb, hml, hown, hts, hr, hlk, hK, hD⟩ := id C
  obtain ⟨q, hq⟩ := List.getElem?_of_mem (fm_al_mem (L := o0 :: o1 :: some (fm_I x) :: t) (q := (2, fm_I x)).mpr rfl)
  refine lv_iinc (v := Int32.ofInt (x + n)) hx hb hd hl.has (k := q) hq (Int32.ofInt_add x n).symm (by simp) rfl (fun ls2 hl2 => ?_)
  have h9 : ∀ (j : Nat) (ow : Option Value), j + 1 = 2 → (o0 :: o1 :: some (fm_I x) :: t)[j]? = some ow → fm_c1 ow = true := by
    intro j ow hj ho
    have hj9 : j = 1 := by omega
    subst hj9
    have e9 : o1 = ow := Option.some.inj ho
    rw [← e9]
    exact hc
  have hl3 := fm_L.put (L := o0 :: o1 :: some (fm_I x) :: t) (i := 2) (by simp) h9 hl2
  exact k C hL H locs ls2 hP hS hl3
theorem fm_ild3 {o0 o1 o2 : Option Value} {x : Int} {t : List (Option Value)} (hd : decode M.1 pc = .ok (.iload_n 3, 1)) (k : fm_W S ω Γ M P σ (pc + 1) (o0 :: o1 :: o2 :: some (fm_I x) :: t) (fm_I x :: st)) : fm_W S ω Γ M P σ pc (o0 :: o1 :: o2 :: some (fm_I x) :: t) (st) := by
  intro C hL H locs ls hP hS hl
  obtain ⟨hx, hb, hml, hown, hts, hr, hlk, hK, hD⟩ := id C
  exact lv_iload_n hx hb hd rfl (hl.2.2 3 _ rfl) (k C hL H locs ls hP hS hl)
theorem fm_ald3 {o0 o1 o2 : Option Value} {x : Nat} {t : List (Option Value)} (hd : decode M.1 pc = .ok (.aload_n 3, 1)) (k : fm_W S ω Γ M P σ (pc + 1) (o0 :: o1 :: o2 :: some (fm_r ω x) :: t) (fm_r ω x :: st)) : fm_W S ω Γ M P σ pc (o0 :: o1 :: o2 :: some (fm_r ω x) :: t) (st) := by
  intro C hL H locs ls hP hS hl
  obtain ⟨hx, hb, hml, hown, hts, hr, hlk, hK, hD⟩ := id C
  exact lv_aload_n hx hb hd rfl (hl.2.2 3 _ rfl) (k C hL H locs ls hP hS hl)
theorem fm_lld3 {o0 o1 o2 : Option Value} {x : Int64} {t : List (Option Value)} (hd : decode M.1 pc = .ok (.lload_n 3, 1)) (k : fm_W S ω Γ M P σ (pc + 1) (o0 :: o1 :: o2 :: some (.long x) :: t) (.long x :: st)) : fm_W S ω Γ M P σ pc (o0 :: o1 :: o2 :: some (.long x) :: t) (st) := by
  intro C hL H locs ls hP hS hl
  obtain ⟨hx, hb, hml, hown, hts, hr, hlk, hK, hD⟩ := id C
  exact lv_lload_n hx hb hd rfl (hl.2.2 3 _ rfl) (k C hL H locs ls hP hS hl)
theorem fm_ist3 {o0 o1 o2 : Option Value} {o : Option Value} {x : Int} {t : List (Option Value)} (hc : fm_c1 o2 = true) (hd : decode M.1 pc = .ok (.istore_n 3, 1)) (k : fm_W S ω Γ M P σ (pc + 1) (o0 :: o1 :: o2 :: some (fm_I x) :: t) (st)) : fm_W S ω Γ M P σ pc (o0 :: o1 :: o2 :: o :: t) (fm_I x :: st) := by
  intro C hL H locs ls hP hS hl
  obtain ⟨hx, hb, hml, hown, hts, hr, hlk, hK, hD⟩ := id C
  refine lv_istore_n (i := 3) hx hb hd rfl hl.has (by simp) rfl (fun ls2 hl2 => ?_)
  have h9 : ∀ (j : Nat) (ow : Option Value), j + 1 = 3 → (o0 :: o1 :: o2 :: o :: t)[j]? = some ow → fm_c1 ow = true := by
    intro j ow hj ho
    have hj9 : j = 2 := by omega
    subst hj9
    have e9 : o2 = ow := Option.some.inj ho
    rw [← e9]
    exact hc
  have hl3 := fm_L.put (L := o0 :: o1 :: o2 :: o :: t) (i := 3) (by simp) h9 hl2
  exact k C hL H locs ls2 hP hS hl3
theorem fm_ast3 {o0 o1 o2 : Option Value} {o : Option Value} {x : Nat} {t : List (Option Value)} (hc : fm_c1 o2 = true) (hd : decode M.1 pc = .ok (.astore_n 3, 1)) (k : fm_W S ω Γ M P σ (pc + 1) (o0 :: o1 :: o2 :: some (fm_r ω x) :: t) (st)) : fm_W S ω Γ M P σ pc (o0 :: o1 :: o2 :: o :: t) (fm_r ω x :: st) := by
  intro C hL H locs ls hP hS hl
  obtain ⟨hx, hb, hml, hown, hts, hr, hlk, hK, hD⟩ := id C
  refine lv_astore_n (i := 3) hx hb hd rfl hl.has (by simp) rfl (fun ls2 hl2 => ?_)
  have h9 : ∀ (j : Nat) (ow : Option Value), j + 1 = 3 → (o0 :: o1 :: o2 :: o :: t)[j]? = some ow → fm_c1 ow = true := by
    intro j ow hj ho
    have hj9 : j = 2 := by omega
    subst hj9
    have e9 : o2 = ow := Option.some.inj ho
    rw [← e9]
    exact hc
  have hl3 := fm_L.put (L := o0 :: o1 :: o2 :: o :: t) (i := 3) (by simp) h9 hl2
  exact k C hL H locs ls2 hP hS hl3
theorem fm_inc3 {o0 o1 o2 : Option Value} {x n : Int} {t : List (Option Value)} (hc : fm_c1 o2 = true) (hd : decode M.1 pc = .ok (.iinc 3 n, 3)) (k : fm_W S ω Γ M P σ (pc + 3) (o0 :: o1 :: o2 :: some (fm_I (x + n)) :: t) (st)) : fm_W S ω Γ M P σ pc (o0 :: o1 :: o2 :: some (fm_I x) :: t) (st) := by
  intro C hL H locs ls hP hS hl
  obtain ⟨hx, hb, hml, hown, hts, hr, hlk, hK, hD⟩ := id C
  obtain ⟨q, hq⟩ := List.getElem?_of_mem (fm_al_mem (L := o0 :: o1 :: o2 :: some (fm_I x) :: t) (q := (3, fm_I x)).mpr rfl)
  refine lv_iinc (v := Int32.ofInt (x + n)) hx hb hd hl.has (k := q) hq (Int32.ofInt_add x n).symm (by simp) rfl (fun ls2 hl2 => ?_)
  have h9 : ∀ (j : Nat) (ow : Option Value), j + 1 = 3 → (o0 :: o1 :: o2 :: some (fm_I x) :: t)[j]? = some ow → fm_c1 ow = true := by
    intro j ow hj ho
    have hj9 : j = 2 := by omega
    subst hj9
    have e9 : o2 = ow := Option.some.inj ho
    rw [← e9]
    exact hc
  have hl3 := fm_L.put (L := o0 :: o1 :: o2 :: some (fm_I x) :: t) (i := 3) (by simp) h9 hl2
  exact k C hL H locs ls2 hP hS hl3
theorem fm_ild4 {o0 o1 o2 o3 : Option Value} {x : Int} {t : List (Option Value)} (hd : decode M.1 pc = .ok (.iload 4, 2)) (k : fm_W S ω Γ M P σ (pc + 2) (o0 :: o1 :: o2 :: o3 :: some (fm_I x) :: t) (fm_I x :: st)) : fm_W S ω Γ M P σ pc (o0 :: o1 :: o2 :: o3 :: some (fm_I x) :: t) (st) := by
  intro C hL H locs ls hP hS hl
  obtain ⟨hx, hb, hml, hown, hts, hr, hlk, hK, hD⟩ := id C
  exact lv_iload hx hb hd (hl.2.2 4 _ rfl) (k C hL H locs ls hP hS hl)
theorem fm_ald4 {o0 o1 o2 o3 : Option Value} {x : Nat} {t : List (Option Value)} (hd : decode M.1 pc = .ok (.aload 4, 2)) (k : fm_W S ω Γ M P σ (pc + 2) (o0 :: o1 :: o2 :: o3 :: some (fm_r ω x) :: t) (fm_r ω x :: st)) : fm_W S ω Γ M P σ pc (o0 :: o1 :: o2 :: o3 :: some (fm_r ω x) :: t) (st) := by
  intro C hL H locs ls hP hS hl
  obtain ⟨hx, hb, hml, hown, hts, hr, hlk, hK, hD⟩ := id C
  exact lv_aload hx hb hd (hl.2.2 4 _ rfl) (k C hL H locs ls hP hS hl)
theorem fm_lld4 {o0 o1 o2 o3 : Option Value} {x : Int64} {t : List (Option Value)} (hd : decode M.1 pc = .ok (.lload 4, 2)) (k : fm_W S ω Γ M P σ (pc + 2) (o0 :: o1 :: o2 :: o3 :: some (.long x) :: t) (.long x :: st)) : fm_W S ω Γ M P σ pc (o0 :: o1 :: o2 :: o3 :: some (.long x) :: t) (st) := by
  intro C hL H locs ls hP hS hl
  obtain ⟨hx, hb, hml, hown, hts, hr, hlk, hK, hD⟩ := id C
  exact lv_lload hx hb hd (hl.2.2 4 _ rfl) (k C hL H locs ls hP hS hl)
theorem fm_ist4 {o0 o1 o2 o3 : Option Value} {o : Option Value} {x : Int} {t : List (Option Value)} (hc : fm_c1 o3 = true) (hd : decode M.1 pc = .ok (.istore 4, 2)) (k : fm_W S ω Γ M P σ (pc + 2) (o0 :: o1 :: o2 :: o3 :: some (fm_I x) :: t) (st)) : fm_W S ω Γ M P σ pc (o0 :: o1 :: o2 :: o3 :: o :: t) (fm_I x :: st) := by
  intro C hL H locs ls hP hS hl
  obtain ⟨hx, hb, hml, hown, hts, hr, hlk, hK, hD⟩ := id C
  refine lv_istore hx hb hd hl.has (by simp) rfl (fun ls2 hl2 => ?_)
  have h9 : ∀ (j : Nat) (ow : Option Value), j + 1 = 4 → (o0 :: o1 :: o2 :: o3 :: o :: t)[j]? = some ow → fm_c1 ow = true := by
    intro j ow hj ho
    have hj9 : j = 3 := by omega
    subst hj9
    have e9 : o3 = ow := Option.some.inj ho
    rw [← e9]
    exact hc
  have hl3 := fm_L.put (L := o0 :: o1 :: o2 :: o3 :: o :: t) (i := 4) (by simp) h9 hl2
  exact k C hL H locs ls2 hP hS hl3
theorem fm_ast4 {o0 o1 o2 o3 : Option Value} {o : Option Value} {x : Nat} {t : List (Option Value)} (hc : fm_c1 o3 = true) (hd : decode M.1 pc = .ok (.astore 4, 2)) (k : fm_W S ω Γ M P σ (pc + 2) (o0 :: o1 :: o2 :: o3 :: some (fm_r ω x) :: t) (st)) : fm_W S ω Γ M P σ pc (o0 :: o1 :: o2 :: o3 :: o :: t) (fm_r ω x :: st) := by
  intro C hL H locs ls hP hS hl
  obtain ⟨hx, hb, hml, hown, hts, hr, hlk, hK, hD⟩ := id C
  refine lv_astore hx hb hd hl.has (by simp) rfl (fun ls2 hl2 => ?_)
  have h9 : ∀ (j : Nat) (ow : Option Value), j + 1 = 4 → (o0 :: o1 :: o2 :: o3 :: o :: t)[j]? = some ow → fm_c1 ow = true := by
    intro j ow hj ho
    have hj9 : j = 3 := by omega
    subst hj9
    have e9 : o3 = ow := Option.some.inj ho
    rw [← e9]
    exact hc
  have hl3 := fm_L.put (L := o0 :: o1 :: o2 :: o3 :: o :: t) (i := 4) (by simp) h9 hl2
  exact k C hL H locs ls2 hP hS hl3
theorem fm_inc4 {o0 o1 o2 o3 : Option Value} {x n : Int} {t : List (Option Value)} (hc : fm_c1 o3 = true) (hd : decode M.1 pc = .ok (.iinc 4 n, 3)) (k : fm_W S ω Γ M P σ (pc + 3) (o0 :: o1 :: o2 :: o3 :: some (fm_I (x + n)) :: t) (st)) : fm_W S ω Γ M P σ pc (o0 :: o1 :: o2 :: o3 :: some (fm_I x) :: t) (st) := by
  intro C hL H locs ls hP hS hl
  obtain ⟨hx, hb, hml, hown, hts, hr, hlk, hK, hD⟩ := id C
  obtain ⟨q, hq⟩ := List.getElem?_of_mem (fm_al_mem (L := o0 :: o1 :: o2 :: o3 :: some (fm_I x) :: t) (q := (4, fm_I x)).mpr rfl)
  refine lv_iinc (v := Int32.ofInt (x + n)) hx hb hd hl.has (k := q) hq (Int32.ofInt_add x n).symm (by simp) rfl (fun ls2 hl2 => ?_)
  have h9 : ∀ (j : Nat) (ow : Option Value), j + 1 = 4 → (o0 :: o1 :: o2 :: o3 :: some (fm_I x) :: t)[j]? = some ow → fm_c1 ow = true := by
    intro j ow hj ho
    have hj9 : j = 3 := by omega
    subst hj9
    have e9 : o3 = ow := Option.some.inj ho
    rw [← e9]
    exact hc
  have hl3 := fm_L.put (L := o0 :: o1 :: o2 :: o3 :: some (fm_I x) :: t) (i := 4) (by simp) h9 hl2
  exact k C hL H locs ls2 hP hS hl3
theorem fm_ild5 {o0 o1 o2 o3 o4 : Option Value} {x : Int} {t : List (Option Value)} (hd : decode M.1 pc = .ok (.iload 5, 2)) (k : fm_W S ω Γ M P σ (pc + 2) (o0 :: o1 :: o2 :: o3 :: o4 :: some (fm_I x) :: t) (fm_I x :: st)) : fm_W S ω Γ M P σ pc (o0 :: o1 :: o2 :: o3 :: o4 :: some (fm_I x) :: t) (st) := by
  intro C hL H locs ls hP hS hl
  obtain ⟨hx, hb, hml, hown, hts, hr, hlk, hK, hD⟩ := id C
  exact lv_iload hx hb hd (hl.2.2 5 _ rfl) (k C hL H locs ls hP hS hl)
theorem fm_ald5 {o0 o1 o2 o3 o4 : Option Value} {x : Nat} {t : List (Option Value)} (hd : decode M.1 pc = .ok (.aload 5, 2)) (k : fm_W S ω Γ M P σ (pc + 2) (o0 :: o1 :: o2 :: o3 :: o4 :: some (fm_r ω x) :: t) (fm_r ω x :: st)) : fm_W S ω Γ M P σ pc (o0 :: o1 :: o2 :: o3 :: o4 :: some (fm_r ω x) :: t) (st) := by
  intro C hL H locs ls hP hS hl
  obtain ⟨hx, hb, hml, hown, hts, hr, hlk, hK, hD⟩ := id C
  exact lv_aload hx hb hd (hl.2.2 5 _ rfl) (k C hL H locs ls hP hS hl)
theorem fm_ist5 {o0 o1 o2 o3 o4 : Option Value} {o : Option Value} {x : Int} {t : List (Option Value)} (hc : fm_c1 o4 = true) (hd : decode M.1 pc = .ok (.istore 5, 2)) (k : fm_W S ω Γ M P σ (pc + 2) (o0 :: o1 :: o2 :: o3 :: o4 :: some (fm_I x) :: t) (st)) : fm_W S ω Γ M P σ pc (o0 :: o1 :: o2 :: o3 :: o4 :: o :: t) (fm_I x :: st) := by
  intro C hL H locs ls hP hS hl
  obtain ⟨hx, hb, hml, hown, hts, hr, hlk, hK, hD⟩ := id C
  refine lv_istore hx hb hd hl.has (by simp) rfl (fun ls2 hl2 => ?_)
  have h9 : ∀ (j : Nat) (ow : Option Value), j + 1 = 5 → (o0 :: o1 :: o2 :: o3 :: o4 :: o :: t)[j]? = some ow → fm_c1 ow = true := by
    intro j ow hj ho
    have hj9 : j = 4 := by omega
    subst hj9
    have e9 : o4 = ow := Option.some.inj ho
    rw [← e9]
    exact hc
  have hl3 := fm_L.put (L := o0 :: o1 :: o2 :: o3 :: o4 :: o :: t) (i := 5) (by simp) h9 hl2
  exact k C hL H locs ls2 hP hS hl3
theorem fm_ast5 {o0 o1 o2 o3 o4 : Option Value} {o : Option Value} {x : Nat} {t : List (Option Value)} (hc : fm_c1 o4 = true) (hd : decode M.1 pc = .ok (.astore 5, 2)) (k : fm_W S ω Γ M P σ (pc + 2) (o0 :: o1 :: o2 :: o3 :: o4 :: some (fm_r ω x) :: t) (st)) : fm_W S ω Γ M P σ pc (o0 :: o1 :: o2 :: o3 :: o4 :: o :: t) (fm_r ω x :: st) := by
  intro C hL H locs ls hP hS hl
  obtain ⟨hx, hb, hml, hown, hts, hr, hlk, hK, hD⟩ := id C
  refine lv_astore hx hb hd hl.has (by simp) rfl (fun ls2 hl2 => ?_)
  have h9 : ∀ (j : Nat) (ow : Option Value), j + 1 = 5 → (o0 :: o1 :: o2 :: o3 :: o4 :: o :: t)[j]? = some ow → fm_c1 ow = true := by
    intro j ow hj ho
    have hj9 : j = 4 := by omega
    subst hj9
    have e9 : o4 = ow := Option.some.inj ho
    rw [← e9]
    exact hc
  have hl3 := fm_L.put (L := o0 :: o1 :: o2 :: o3 :: o4 :: o :: t) (i := 5) (by simp) h9 hl2
  exact k C hL H locs ls2 hP hS hl3
theorem fm_inc5 {o0 o1 o2 o3 o4 : Option Value} {x n : Int} {t : List (Option Value)} (hc : fm_c1 o4 = true) (hd : decode M.1 pc = .ok (.iinc 5 n, 3)) (k : fm_W S ω Γ M P σ (pc + 3) (o0 :: o1 :: o2 :: o3 :: o4 :: some (fm_I (x + n)) :: t) (st)) : fm_W S ω Γ M P σ pc (o0 :: o1 :: o2 :: o3 :: o4 :: some (fm_I x) :: t) (st) := by
  intro C hL H locs ls hP hS hl
  obtain ⟨hx, hb, hml, hown, hts, hr, hlk, hK, hD⟩ := id C
  obtain ⟨q, hq⟩ := List.getElem?_of_mem (fm_al_mem (L := o0 :: o1 :: o2 :: o3 :: o4 :: some (fm_I x) :: t) (q := (5, fm_I x)).mpr rfl)
  refine lv_iinc (v := Int32.ofInt (x + n)) hx hb hd hl.has (k := q) hq (Int32.ofInt_add x n).symm (by simp) rfl (fun ls2 hl2 => ?_)
  have h9 : ∀ (j : Nat) (ow : Option Value), j + 1 = 5 → (o0 :: o1 :: o2 :: o3 :: o4 :: some (fm_I x) :: t)[j]? = some ow → fm_c1 ow = true := by
    intro j ow hj ho
    have hj9 : j = 4 := by omega
    subst hj9
    have e9 : o4 = ow := Option.some.inj ho
    rw [← e9]
    exact hc
  have hl3 := fm_L.put (L := o0 :: o1 :: o2 :: o3 :: o4 :: some (fm_I x) :: t) (i := 5) (by simp) h9 hl2
  exact k C hL H locs ls2 hP hS hl3
theorem fm_ild6 {o0 o1 o2 o3 o4 o5 : Option Value} {x : Int} {t : List (Option Value)} (hd : decode M.1 pc = .ok (.iload 6, 2)) (k : fm_W S ω Γ M P σ (pc + 2) (o0 :: o1 :: o2 :: o3 :: o4 :: o5 :: some (fm_I x) :: t) (fm_I x :: st)) : fm_W S ω Γ M P σ pc (o0 :: o1 :: o2 :: o3 :: o4 :: o5 :: some (fm_I x) :: t) (st) := by
  intro C hL H locs ls hP hS hl
  obtain ⟨hx, hb, hml, hown, hts, hr, hlk, hK, hD⟩ := id C
  exact lv_iload hx hb hd (hl.2.2 6 _ rfl) (k C hL H locs ls hP hS hl)
theorem fm_ald6 {o0 o1 o2 o3 o4 o5 : Option Value} {x : Nat} {t : List (Option Value)} (hd : decode M.1 pc = .ok (.aload 6, 2)) (k : fm_W S ω Γ M P σ (pc + 2) (o0 :: o1 :: o2 :: o3 :: o4 :: o5 :: some (fm_r ω x) :: t) (fm_r ω x :: st)) : fm_W S ω Γ M P σ pc (o0 :: o1 :: o2 :: o3 :: o4 :: o5 :: some (fm_r ω x) :: t) (st) := by
  intro C hL H locs ls hP hS hl
  obtain ⟨hx, hb, hml, hown, hts, hr, hlk, hK, hD⟩ := id C
  exact lv_aload hx hb hd (hl.2.2 6 _ rfl) (k C hL H locs ls hP hS hl)
theorem fm_ist6 {o0 o1 o2 o3 o4 o5 : Option Value} {o : Option Value} {x : Int} {t : List (Option Value)} (hc : fm_c1 o5 = true) (hd : decode M.1 pc = .ok (.istore 6, 2)) (k : fm_W S ω Γ M P σ (pc + 2) (o0 :: o1 :: o2 :: o3 :: o4 :: o5 :: some (fm_I x) :: t) (st)) : fm_W S ω Γ M P σ pc (o0 :: o1 :: o2 :: o3 :: o4 :: o5 :: o :: t) (fm_I x :: st) := by
  intro C hL H locs ls hP hS hl
  obtain ⟨hx, hb, hml, hown, hts, hr, hlk, hK, hD⟩ := id C
  refine lv_istore hx hb hd hl.has (by simp) rfl (fun ls2 hl2 => ?_)
  have h9 : ∀ (j : Nat) (ow : Option Value), j + 1 = 6 → (o0 :: o1 :: o2 :: o3 :: o4 :: o5 :: o :: t)[j]? = some ow → fm_c1 ow = true := by
    intro j ow hj ho
    have hj9 : j = 5 := by omega
    subst hj9
    have e9 : o5 = ow := Option.some.inj ho
    rw [← e9]
    exact hc
  have hl3 := fm_L.put (L := o0 :: o1 :: o2 :: o3 :: o4 :: o5 :: o :: t) (i := 6) (by simp) h9 hl2
  exact k C hL H locs ls2 hP hS hl3
theorem fm_ast6 {o0 o1 o2 o3 o4 o5 : Option Value} {o : Option Value} {x : Nat} {t : List (Option Value)} (hc : fm_c1 o5 = true) (hd : decode M.1 pc = .ok (.astore 6, 2)) (k : fm_W S ω Γ M P σ (pc + 2) (o0 :: o1 :: o2 :: o3 :: o4 :: o5 :: some (fm_r ω x) :: t) (st)) : fm_W S ω Γ M P σ pc (o0 :: o1 :: o2 :: o3 :: o4 :: o5 :: o :: t) (fm_r ω x :: st) := by
  intro C hL H locs ls hP hS hl
  obtain ⟨hx, hb, hml, hown, hts, hr, hlk, hK, hD⟩ := id C
  refine lv_astore hx hb hd hl.has (by simp) rfl (fun ls2 hl2 => ?_)
  have h9 : ∀ (j : Nat) (ow : Option Value), j + 1 = 6 → (o0 :: o1 :: o2 :: o3 :: o4 :: o5 :: o :: t)[j]? = some ow → fm_c1 ow = true := by
    intro j ow hj ho
    have hj9 : j = 5 := by omega
    subst hj9
    have e9 : o5 = ow := Option.some.inj ho
    rw [← e9]
    exact hc
  have hl3 := fm_L.put (L := o0 :: o1 :: o2 :: o3 :: o4 :: o5 :: o :: t) (i := 6) (by simp) h9 hl2
  exact k C hL H locs ls2 hP hS hl3
theorem fm_inc6 {o0 o1 o2 o3 o4 o5 : Option Value} {x n : Int} {t : List (Option Value)} (hc : fm_c1 o5 = true) (hd : decode M.1 pc = .ok (.iinc 6 n, 3)) (k : fm_W S ω Γ M P σ (pc + 3) (o0 :: o1 :: o2 :: o3 :: o4 :: o5 :: some (fm_I (x + n)) :: t) (st)) : fm_W S ω Γ M P σ pc (o0 :: o1 :: o2 :: o3 :: o4 :: o5 :: some (fm_I x) :: t) (st) := by
  intro C hL H locs ls hP hS hl
  obtain ⟨hx, hb, hml, hown, hts, hr, hlk, hK, hD⟩ := id C
  obtain ⟨q, hq⟩ := List.getElem?_of_mem (fm_al_mem (L := o0 :: o1 :: o2 :: o3 :: o4 :: o5 :: some (fm_I x) :: t) (q := (6, fm_I x)).mpr rfl)
  refine lv_iinc (v := Int32.ofInt (x + n)) hx hb hd hl.has (k := q) hq (Int32.ofInt_add x n).symm (by simp) rfl (fun ls2 hl2 => ?_)
  have h9 : ∀ (j : Nat) (ow : Option Value), j + 1 = 6 → (o0 :: o1 :: o2 :: o3 :: o4 :: o5 :: some (fm_I x) :: t)[j]? = some ow → fm_c1 ow = true := by
    intro j ow hj ho
    have hj9 : j = 5 := by omega
    subst hj9
    have e9 : o5 = ow := Option.some.inj ho
    rw [← e9]
    exact hc
  have hl3 := fm_L.put (L := o0 :: o1 :: o2 :: o3 :: o4 :: o5 :: some (fm_I x) :: t) (i := 6) (by simp) h9 hl2
  exact k C hL H locs ls2 hP hS hl3
theorem fm_ild7 {o0 o1 o2 o3 o4 o5 o6 : Option Value} {x : Int} {t : List (Option Value)} (hd : decode M.1 pc = .ok (.iload 7, 2)) (k : fm_W S ω Γ M P σ (pc + 2) (o0 :: o1 :: o2 :: o3 :: o4 :: o5 :: o6 :: some (fm_I x) :: t) (fm_I x :: st)) : fm_W S ω Γ M P σ pc (o0 :: o1 :: o2 :: o3 :: o4 :: o5 :: o6 :: some (fm_I x) :: t) (st) := by
  intro C hL H locs ls hP hS hl
  obtain ⟨hx, hb, hml, hown, hts, hr, hlk, hK, hD⟩ := id C
  exact lv_iload hx hb hd (hl.2.2 7 _ rfl) (k C hL H locs ls hP hS hl)
theorem fm_ald7 {o0 o1 o2 o3 o4 o5 o6 : Option Value} {x : Nat} {t : List (Option Value)} (hd : decode M.1 pc = .ok (.aload 7, 2)) (k : fm_W S ω Γ M P σ (pc + 2) (o0 :: o1 :: o2 :: o3 :: o4 :: o5 :: o6 :: some (fm_r ω x) :: t) (fm_r ω x :: st)) : fm_W S ω Γ M P σ pc (o0 :: o1 :: o2 :: o3 :: o4 :: o5 :: o6 :: some (fm_r ω x) :: t) (st) := by
  intro C hL H locs ls hP hS hl
  obtain ⟨hx, hb, hml, hown, hts, hr, hlk, hK, hD⟩ := id C
  exact lv_aload hx hb hd (hl.2.2 7 _ rfl) (k C hL H locs ls hP hS hl)
theorem fm_ist7 {o0 o1 o2 o3 o4 o5 o6 : Option Value} {o : Option Value} {x : Int} {t : List (Option Value)} (hc : fm_c1 o6 = true) (hd : decode M.1 pc = .ok (.istore 7, 2)) (k : fm_W S ω Γ M P σ (pc + 2) (o0 :: o1 :: o2 :: o3 :: o4 :: o5 :: o6 :: some (fm_I x) :: t) (st)) : fm_W S ω Γ M P σ pc (o0 :: o1 :: o2 :: o3 :: o4 :: o5 :: o6 :: o :: t) (fm_I x :: st) := by
  intro C hL H locs ls hP hS hl
  obtain ⟨hx, hb, hml, hown, hts, hr, hlk, hK, hD⟩ := id C
  refine lv_istore hx hb hd hl.has (by simp) rfl (fun ls2 hl2 => ?_)
  have h9 : ∀ (j : Nat) (ow : Option Value), j + 1 = 7 → (o0 :: o1 :: o2 :: o3 :: o4 :: o5 :: o6 :: o :: t)[j]? = some ow → fm_c1 ow = true := by
    intro j ow hj ho
    have hj9 : j = 6 := by omega
    subst hj9
    have e9 : o6 = ow := Option.some.inj ho
    rw [← e9]
    exact hc
  have hl3 := fm_L.put (L := o0 :: o1 :: o2 :: o3 :: o4 :: o5 :: o6 :: o :: t) (i := 7) (by simp) h9 hl2
  exact k C hL H locs ls2 hP hS hl3
theorem fm_ast7 {o0 o1 o2 o3 o4 o5 o6 : Option Value} {o : Option Value} {x : Nat} {t : List (Option Value)} (hc : fm_c1 o6 = true) (hd : decode M.1 pc = .ok (.astore 7, 2)) (k : fm_W S ω Γ M P σ (pc + 2) (o0 :: o1 :: o2 :: o3 :: o4 :: o5 :: o6 :: some (fm_r ω x) :: t) (st)) : fm_W S ω Γ M P σ pc (o0 :: o1 :: o2 :: o3 :: o4 :: o5 :: o6 :: o :: t) (fm_r ω x :: st) := by
  intro C hL H locs ls hP hS hl
  obtain ⟨hx, hb, hml, hown, hts, hr, hlk, hK, hD⟩ := id C
  refine lv_astore hx hb hd hl.has (by simp) rfl (fun ls2 hl2 => ?_)
  have h9 : ∀ (j : Nat) (ow : Option Value), j + 1 = 7 → (o0 :: o1 :: o2 :: o3 :: o4 :: o5 :: o6 :: o :: t)[j]? = some ow → fm_c1 ow = true := by
    intro j ow hj ho
    have hj9 : j = 6 := by omega
    subst hj9
    have e9 : o6 = ow := Option.some.inj ho
    rw [← e9]
    exact hc
  have hl3 := fm_L.put (L := o0 :: o1 :: o2 :: o3 :: o4 :: o5 :: o6 :: o :: t) (i := 7) (by simp) h9 hl2
  exact k C hL H locs ls2 hP hS hl3
theorem fm_inc7 {o0 o1 o2 o3 o4 o5 o6 : Option Value} {x n : Int} {t : List (Option Value)} (hc : fm_c1 o6 = true) (hd : decode M.1 pc = .ok (.iinc 7 n, 3)) (k : fm_W S ω Γ M P σ (pc + 3) (o0 :: o1 :: o2 :: o3 :: o4 :: o5 :: o6 :: some (fm_I (x + n)) :: t) (st)) : fm_W S ω Γ M P σ pc (o0 :: o1 :: o2 :: o3 :: o4 :: o5 :: o6 :: some (fm_I x) :: t) (st) := by
  intro C hL H locs ls hP hS hl
  obtain ⟨hx, hb, hml, hown, hts, hr, hlk, hK, hD⟩ := id C
  obtain ⟨q, hq⟩ := List.getElem?_of_mem (fm_al_mem (L := o0 :: o1 :: o2 :: o3 :: o4 :: o5 :: o6 :: some (fm_I x) :: t) (q := (7, fm_I x)).mpr rfl)
  refine lv_iinc (v := Int32.ofInt (x + n)) hx hb hd hl.has (k := q) hq (Int32.ofInt_add x n).symm (by simp) rfl (fun ls2 hl2 => ?_)
  have h9 : ∀ (j : Nat) (ow : Option Value), j + 1 = 7 → (o0 :: o1 :: o2 :: o3 :: o4 :: o5 :: o6 :: some (fm_I x) :: t)[j]? = some ow → fm_c1 ow = true := by
    intro j ow hj ho
    have hj9 : j = 6 := by omega
    subst hj9
    have e9 : o6 = ow := Option.some.inj ho
    rw [← e9]
    exact hc
  have hl3 := fm_L.put (L := o0 :: o1 :: o2 :: o3 :: o4 :: o5 :: o6 :: some (fm_I x) :: t) (i := 7) (by simp) h9 hl2
  exact k C hL H locs ls2 hP hS hl3
theorem fm_ild8 {o0 o1 o2 o3 o4 o5 o6 o7 : Option Value} {x : Int} {t : List (Option Value)} (hd : decode M.1 pc = .ok (.iload 8, 2)) (k : fm_W S ω Γ M P σ (pc + 2) (o0 :: o1 :: o2 :: o3 :: o4 :: o5 :: o6 :: o7 :: some (fm_I x) :: t) (fm_I x :: st)) : fm_W S ω Γ M P σ pc (o0 :: o1 :: o2 :: o3 :: o4 :: o5 :: o6 :: o7 :: some (fm_I x) :: t) (st) := by
  intro C hL H locs ls hP hS hl
  obtain ⟨hx, hb, hml, hown, hts, hr, hlk, hK, hD⟩ := id C
  exact lv_iload hx hb hd (hl.2.2 8 _ rfl) (k C hL H locs ls hP hS hl)
theorem fm_ald8 {o0 o1 o2 o3 o4 o5 o6 o7 : Option Value} {x : Nat} {t : List (Option Value)} (hd : decode M.1 pc = .ok (.aload 8, 2)) (k : fm_W S ω Γ M P σ (pc + 2) (o0 :: o1 :: o2 :: o3 :: o4 :: o5 :: o6 :: o7 :: some (fm_r ω x) :: t) (fm_r ω x :: st)) : fm_W S ω Γ M P σ pc (o0 :: o1 :: o2 :: o3 :: o4 :: o5 :: o6 :: o7 :: some (fm_r ω x) :: t) (st) := by
  intro C hL H locs ls hP hS hl
  obtain ⟨hx, hb, hml, hown, hts, hr, hlk, hK, hD⟩ := id C
  exact lv_aload hx hb hd (hl.2.2 8 _ rfl) (k C hL H locs ls hP hS hl)
theorem fm_ist8 {o0 o1 o2 o3 o4 o5 o6 o7 : Option Value} {o : Option Value} {x : Int} {t : List (Option Value)} (hc : fm_c1 o7 = true) (hd : decode M.1 pc = .ok (.istore 8, 2)) (k : fm_W S ω Γ M P σ (pc + 2) (o0 :: o1 :: o2 :: o3 :: o4 :: o5 :: o6 :: o7 :: some (fm_I x) :: t) (st)) : fm_W S ω Γ M P σ pc (o0 :: o1 :: o2 :: o3 :: o4 :: o5 :: o6 :: o7 :: o :: t) (fm_I x :: st) := by
  intro C hL H locs ls hP hS hl
  obtain ⟨hx, hb, hml, hown, hts, hr, hlk, hK, hD⟩ := id C
  refine lv_istore hx hb hd hl.has (by simp) rfl (fun ls2 hl2 => ?_)
  have h9 : ∀ (j : Nat) (ow : Option Value), j + 1 = 8 → (o0 :: o1 :: o2 :: o3 :: o4 :: o5 :: o6 :: o7 :: o :: t)[j]? = some ow → fm_c1 ow = true := by
    intro j ow hj ho
    have hj9 : j = 7 := by omega
    subst hj9
    have e9 : o7 = ow := Option.some.inj ho
    rw [← e9]
    exact hc
  have hl3 := fm_L.put (L := o0 :: o1 :: o2 :: o3 :: o4 :: o5 :: o6 :: o7 :: o :: t) (i := 8) (by simp) h9 hl2
  exact k C hL H locs ls2 hP hS hl3
theorem fm_ast8 {o0 o1 o2 o3 o4 o5 o6 o7 : Option Value} {o : Option Value} {x : Nat} {t : List (Option Value)} (hc : fm_c1 o7 = true) (hd : decode M.1 pc = .ok (.astore 8, 2)) (k : fm_W S ω Γ M P σ (pc + 2) (o0 :: o1 :: o2 :: o3 :: o4 :: o5 :: o6 :: o7 :: some (fm_r ω x) :: t) (st)) : fm_W S ω Γ M P σ pc (o0 :: o1 :: o2 :: o3 :: o4 :: o5 :: o6 :: o7 :: o :: t) (fm_r ω x :: st) := by
  intro C hL H locs ls hP hS hl
  obtain ⟨hx, hb, hml, hown, hts, hr, hlk, hK, hD⟩ := id C
  refine lv_astore hx hb hd hl.has (by simp) rfl (fun ls2 hl2 => ?_)
  have h9 : ∀ (j : Nat) (ow : Option Value), j + 1 = 8 → (o0 :: o1 :: o2 :: o3 :: o4 :: o5 :: o6 :: o7 :: o :: t)[j]? = some ow → fm_c1 ow = true := by
    intro j ow hj ho
    have hj9 : j = 7 := by omega
    subst hj9
    have e9 : o7 = ow := Option.some.inj ho
    rw [← e9]
    exact hc
  have hl3 := fm_L.put (L := o0 :: o1 :: o2 :: o3 :: o4 :: o5 :: o6 :: o7 :: o :: t) (i := 8) (by simp) h9 hl2
  exact k C hL H locs ls2 hP hS hl3
theorem fm_inc8 {o0 o1 o2 o3 o4 o5 o6 o7 : Option Value} {x n : Int} {t : List (Option Value)} (hc : fm_c1 o7 = true) (hd : decode M.1 pc = .ok (.iinc 8 n, 3)) (k : fm_W S ω Γ M P σ (pc + 3) (o0 :: o1 :: o2 :: o3 :: o4 :: o5 :: o6 :: o7 :: some (fm_I (x + n)) :: t) (st)) : fm_W S ω Γ M P σ pc (o0 :: o1 :: o2 :: o3 :: o4 :: o5 :: o6 :: o7 :: some (fm_I x) :: t) (st) := by
  intro C hL H locs ls hP hS hl
  obtain ⟨hx, hb, hml, hown, hts, hr, hlk, hK, hD⟩ := id C
  obtain ⟨q, hq⟩ := List.getElem?_of_mem (fm_al_mem (L := o0 :: o1 :: o2 :: o3 :: o4 :: o5 :: o6 :: o7 :: some (fm_I x) :: t) (q := (8, fm_I x)).mpr rfl)
  refine lv_iinc (v := Int32.ofInt (x + n)) hx hb hd hl.has (k := q) hq (Int32.ofInt_add x n).symm (by simp) rfl (fun ls2 hl2 => ?_)
  have h9 : ∀ (j : Nat) (ow : Option Value), j + 1 = 8 → (o0 :: o1 :: o2 :: o3 :: o4 :: o5 :: o6 :: o7 :: some (fm_I x) :: t)[j]? = some ow → fm_c1 ow = true := by
    intro j ow hj ho
    have hj9 : j = 7 := by omega
    subst hj9
    have e9 : o7 = ow := Option.some.inj ho
    rw [← e9]
    exact hc
  have hl3 := fm_L.put (L := o0 :: o1 :: o2 :: o3 :: o4 :: o5 :: o6 :: o7 :: some (fm_I x) :: t) (i := 8) (by simp) h9 hl2
  exact k C hL H locs ls2 hP hS hl3
theorem fm_ild9 {o0 o1 o2 o3 o4 o5 o6 o7 o8 : Option Value} {x : Int} {t : List (Option Value)} (hd : decode M.1 pc = .ok (.iload 9, 2)) (k : fm_W S ω Γ M P σ (pc + 2) (o0 :: o1 :: o2 :: o3 :: o4 :: o5 :: o6 :: o7 :: o8 :: some (fm_I x) :: t) (fm_I x :: st)) : fm_W S ω Γ M P σ pc (o0 :: o1 :: o2 :: o3 :: o4 :: o5 :: o6 :: o7 :: o8 :: some (fm_I x) :: t) (st) := by
  intro C hL H locs ls hP hS hl
  obtain ⟨hx, hb, hml, hown, hts, hr, hlk, hK, hD⟩ := id C
  exact lv_iload hx hb hd (hl.2.2 9 _ rfl) (k C hL H locs ls hP hS hl)
theorem fm_ald9 {o0 o1 o2 o3 o4 o5 o6 o7 o8 : Option Value} {x : Nat} {t : List (Option Value)} (hd : decode M.1 pc = .ok (.aload 9, 2)) (k : fm_W S ω Γ M P σ (pc + 2) (o0 :: o1 :: o2 :: o3 :: o4 :: o5 :: o6 :: o7 :: o8 :: some (fm_r ω x) :: t) (fm_r ω x :: st)) : fm_W S ω Γ M P σ pc (o0 :: o1 :: o2 :: o3 :: o4 :: o5 :: o6 :: o7 :: o8 :: some (fm_r ω x) :: t) (st) := by
  intro C hL H locs ls hP hS hl
  obtain ⟨hx, hb, hml, hown, hts, hr, hlk, hK, hD⟩ := id C
  exact lv_aload hx hb hd (hl.2.2 9 _ rfl) (k C hL H locs ls hP hS hl)
theorem fm_ist9 {o0 o1 o2 o3 o4 o5 o6 o7 o8 : Option Value} {o : Option Value} {x : Int} {t : List (Option Value)} (hc : fm_c1 o8 = true) (hd : decode M.1 pc = .ok (.istore 9, 2)) (k : fm_W S ω Γ M P σ (pc + 2) (o0 :: o1 :: o2 :: o3 :: o4 :: o5 :: o6 :: o7 :: o8 :: some (fm_I x) :: t) (st)) : fm_W S ω Γ M P σ pc (o0 :: o1 :: o2 :: o3 :: o4 :: o5 :: o6 :: o7 :: o8 :: o :: t) (fm_I x :: st) := by
  intro C hL H locs ls hP hS hl
  obtain ⟨hx, hb, hml, hown, hts, hr, hlk, hK, hD⟩ := id C
  refine lv_istore hx hb hd hl.has (by simp) rfl (fun ls2 hl2 => ?_)
  have h9 : ∀ (j : Nat) (ow : Option Value), j + 1 = 9 → (o0 :: o1 :: o2 :: o3 :: o4 :: o5 :: o6 :: o7 :: o8 :: o :: t)[j]? = some ow → fm_c1 ow = true := by
    intro j ow hj ho
    have hj9 : j = 8 := by omega
    subst hj9
    have e9 : o8 = ow := Option.some.inj ho
    rw [← e9]
    exact hc
  have hl3 := fm_L.put (L := o0 :: o1 :: o2 :: o3 :: o4 :: o5 :: o6 :: o7 :: o8 :: o :: t) (i := 9) (by simp) h9 hl2
  exact k C hL H locs ls2 hP hS hl3
theorem fm_ast9 {o0 o1 o2 o3 o4 o5 o6 o7 o8 : Option Value} {o : Option Value} {x : Nat} {t : List (Option Value)} (hc : fm_c1 o8 = true) (hd : decode M.1 pc = .ok (.astore 9, 2)) (k : fm_W S ω Γ M P σ (pc + 2) (o0 :: o1 :: o2 :: o3 :: o4 :: o5 :: o6 :: o7 :: o8 :: some (fm_r ω x) :: t) (st)) : fm_W S ω Γ M P σ pc (o0 :: o1 :: o2 :: o3 :: o4 :: o5 :: o6 :: o7 :: o8 :: o :: t) (fm_r ω x :: st) := by
  intro C hL H locs ls hP hS hl
  obtain ⟨hx, hb, hml, hown, hts, hr, hlk, hK, hD⟩ := id C
  refine lv_astore hx hb hd hl.has (by simp) rfl (fun ls2 hl2 => ?_)
  have h9 : ∀ (j : Nat) (ow : Option Value), j + 1 = 9 → (o0 :: o1 :: o2 :: o3 :: o4 :: o5 :: o6 :: o7 :: o8 :: o :: t)[j]? = some ow → fm_c1 ow = true := by
    intro j ow hj ho
    have hj9 : j = 8 := by omega
    subst hj9
    have e9 : o8 = ow := Option.some.inj ho
    rw [← e9]
    exact hc
  have hl3 := fm_L.put (L := o0 :: o1 :: o2 :: o3 :: o4 :: o5 :: o6 :: o7 :: o8 :: o :: t) (i := 9) (by simp) h9 hl2
  exact k C hL H locs ls2 hP hS hl3
theorem fm_inc9 {o0 o1 o2 o3 o4 o5 o6 o7 o8 : Option Value} {x n : Int} {t : List (Option Value)} (hc : fm_c1 o8 = true) (hd : decode M.1 pc = .ok (.iinc 9 n, 3)) (k : fm_W S ω Γ M P σ (pc + 3) (o0 :: o1 :: o2 :: o3 :: o4 :: o5 :: o6 :: o7 :: o8 :: some (fm_I (x + n)) :: t) (st)) : fm_W S ω Γ M P σ pc (o0 :: o1 :: o2 :: o3 :: o4 :: o5 :: o6 :: o7 :: o8 :: some (fm_I x) :: t) (st) := by
  intro C hL H locs ls hP hS hl
  obtain ⟨hx, hb, hml, hown, hts, hr, hlk, hK, hD⟩ := id C
  obtain ⟨q, hq⟩ := List.getElem?_of_mem (fm_al_mem (L := o0 :: o1 :: o2 :: o3 :: o4 :: o5 :: o6 :: o7 :: o8 :: some (fm_I x) :: t) (q := (9, fm_I x)).mpr rfl)
  refine lv_iinc (v := Int32.ofInt (x + n)) hx hb hd hl.has (k := q) hq (Int32.ofInt_add x n).symm (by simp) rfl (fun ls2 hl2 => ?_)
  have h9 : ∀ (j : Nat) (ow : Option Value), j + 1 = 9 → (o0 :: o1 :: o2 :: o3 :: o4 :: o5 :: o6 :: o7 :: o8 :: some (fm_I x) :: t)[j]? = some ow → fm_c1 ow = true := by
    intro j ow hj ho
    have hj9 : j = 8 := by omega
    subst hj9
    have e9 : o8 = ow := Option.some.inj ho
    rw [← e9]
    exact hc
  have hl3 := fm_L.put (L := o0 :: o1 :: o2 :: o3 :: o4 :: o5 :: o6 :: o7 :: o8 :: some (fm_I x) :: t) (i := 9) (by simp) h9 hl2
  exact k C hL H locs ls2 hP hS hl3
theorem fm_ild10 {o0 o1 o2 o3 o4 o5 o6 o7 o8 o9 : Option Value} {x : Int} {t : List (Option Value)} (hd : decode M.1 pc = .ok (.iload 10, 2)) (k : fm_W S ω Γ M P σ (pc + 2) (o0 :: o1 :: o2 :: o3 :: o4 :: o5 :: o6 :: o7 :: o8 :: o9 :: some (fm_I x) :: t) (fm_I x :: st)) : fm_W S ω Γ M P σ pc (o0 :: o1 :: o2 :: o3 :: o4 :: o5 :: o6 :: o7 :: o8 :: o9 :: some (fm_I x) :: t) (st) := by
  intro C hL H locs ls hP hS hl
  obtain ⟨hx, hb, hml, hown, hts, hr, hlk, hK, hD⟩ := id C
  exact lv_iload hx hb hd (hl.2.2 10 _ rfl) (k C hL H locs ls hP hS hl)
theorem fm_ald10 {o0 o1 o2 o3 o4 o5 o6 o7 o8 o9 : Option Value} {x : Nat} {t : List (Option Value)} (hd : decode M.1 pc = .ok (.aload 10, 2)) (k : fm_W S ω Γ M P σ (pc + 2) (o0 :: o1 :: o2 :: o3 :: o4 :: o5 :: o6 :: o7 :: o8 :: o9 :: some (fm_r ω x) :: t) (fm_r ω x :: st)) : fm_W S ω Γ M P σ pc (o0 :: o1 :: o2 :: o3 :: o4 :: o5 :: o6 :: o7 :: o8 :: o9 :: some (fm_r ω x) :: t) (st) := by
  intro C hL H locs ls hP hS hl
  obtain ⟨hx, hb, hml, hown, hts, hr, hlk, hK, hD⟩ := id C
  exact lv_aload hx hb hd (hl.2.2 10 _ rfl) (k C hL H locs ls hP hS hl)
theorem fm_ist10 {o0 o1 o2 o3 o4 o5 o6 o7 o8 o9 : Option Value} {o : Option Value} {x : Int} {t : List (Option Value)} (hc : fm_c1 o9 = true) (hd : decode M.1 pc = .ok (.istore 10, 2)) (k : fm_W S ω Γ M P σ (pc + 2) (o0 :: o1 :: o2 :: o3 :: o4 :: o5 :: o6 :: o7 :: o8 :: o9 :: some (fm_I x) :: t) (st)) : fm_W S ω Γ M P σ pc (o0 :: o1 :: o2 :: o3 :: o4 :: o5 :: o6 :: o7 :: o8 :: o9 :: o :: t) (fm_I x :: st) := by
  intro C hL H locs ls hP hS hl
  obtain ⟨hx, hb, hml, hown, hts, hr, hlk, hK, hD⟩ := id C
  refine lv_istore hx hb hd hl.has (by simp) rfl (fun ls2 hl2 => ?_)
  have h9 : ∀ (j : Nat) (ow : Option Value), j + 1 = 10 → (o0 :: o1 :: o2 :: o3 :: o4 :: o5 :: o6 :: o7 :: o8 :: o9 :: o :: t)[j]? = some ow → fm_c1 ow = true := by
    intro j ow hj ho
    have hj9 : j = 9 := by omega
    subst hj9
    have e9 : o9 = ow := Option.some.inj ho
    rw [← e9]
    exact hc
  have hl3 := fm_L.put (L := o0 :: o1 :: o2 :: o3 :: o4 :: o5 :: o6 :: o7 :: o8 :: o9 :: o :: t) (i := 10) (by simp) h9 hl2
  exact k C hL H locs ls2 hP hS hl3
theorem fm_ast10 {o0 o1 o2 o3 o4 o5 o6 o7 o8 o9 : Option Value} {o : Option Value} {x : Nat} {t : List (Option Value)} (hc : fm_c1 o9 = true) (hd : decode M.1 pc = .ok (.astore 10, 2)) (k : fm_W S ω Γ M P σ (pc + 2) (o0 :: o1 :: o2 :: o3 :: o4 :: o5 :: o6 :: o7 :: o8 :: o9 :: some (fm_r ω x) :: t) (st)) : fm_W S ω Γ M P σ pc (o0 :: o1 :: o2 :: o3 :: o4 :: o5 :: o6 :: o7 :: o8 :: o9 :: o :: t) (fm_r ω x :: st) := by
  intro C hL H locs ls hP hS hl
  obtain ⟨hx, hb, hml, hown, hts, hr, hlk, hK, hD⟩ := id C
  refine lv_astore hx hb hd hl.has (by simp) rfl (fun ls2 hl2 => ?_)
  have h9 : ∀ (j : Nat) (ow : Option Value), j + 1 = 10 → (o0 :: o1 :: o2 :: o3 :: o4 :: o5 :: o6 :: o7 :: o8 :: o9 :: o :: t)[j]? = some ow → fm_c1 ow = true := by
    intro j ow hj ho
    have hj9 : j = 9 := by omega
    subst hj9
    have e9 : o9 = ow := Option.some.inj ho
    rw [← e9]
    exact hc
  have hl3 := fm_L.put (L := o0 :: o1 :: o2 :: o3 :: o4 :: o5 :: o6 :: o7 :: o8 :: o9 :: o :: t) (i := 10) (by simp) h9 hl2
  exact k C hL H locs ls2 hP hS hl3
theorem fm_inc10 {o0 o1 o2 o3 o4 o5 o6 o7 o8 o9 : Option Value} {x n : Int} {t : List (Option Value)} (hc : fm_c1 o9 = true) (hd : decode M.1 pc = .ok (.iinc 10 n, 3)) (k : fm_W S ω Γ M P σ (pc + 3) (o0 :: o1 :: o2 :: o3 :: o4 :: o5 :: o6 :: o7 :: o8 :: o9 :: some (fm_I (x + n)) :: t) (st)) : fm_W S ω Γ M P σ pc (o0 :: o1 :: o2 :: o3 :: o4 :: o5 :: o6 :: o7 :: o8 :: o9 :: some (fm_I x) :: t) (st) := by
  intro C hL H locs ls hP hS hl
  obtain ⟨hx, hb, hml, hown, hts, hr, hlk, hK, hD⟩ := id C
  obtain ⟨q, hq⟩ := List.getElem?_of_mem (fm_al_mem (L := o0 :: o1 :: o2 :: o3 :: o4 :: o5 :: o6 :: o7 :: o8 :: o9 :: some (fm_I x) :: t) (q := (10, fm_I x)).mpr rfl)
  refine lv_iinc (v := Int32.ofInt (x + n)) hx hb hd hl.has (k := q) hq (Int32.ofInt_add x n).symm (by simp) rfl (fun ls2 hl2 => ?_)
  have h9 : ∀ (j : Nat) (ow : Option Value), j + 1 = 10 → (o0 :: o1 :: o2 :: o3 :: o4 :: o5 :: o6 :: o7 :: o8 :: o9 :: some (fm_I x) :: t)[j]? = some ow → fm_c1 ow = true := by
    intro j ow hj ho
    have hj9 : j = 9 := by omega
    subst hj9
    have e9 : o9 = ow := Option.some.inj ho
    rw [← e9]
    exact hc
  have hl3 := fm_L.put (L := o0 :: o1 :: o2 :: o3 :: o4 :: o5 :: o6 :: o7 :: o8 :: o9 :: some (fm_I x) :: t) (i := 10) (by simp) h9 hl2
  exact k C hL H locs ls2 hP hS hl3
theorem fm_ild11 {o0 o1 o2 o3 o4 o5 o6 o7 o8 o9 o10 : Option Value} {x : Int} {t : List (Option Value)} (hd : decode M.1 pc = .ok (.iload 11, 2)) (k : fm_W S ω Γ M P σ (pc + 2) (o0 :: o1 :: o2 :: o3 :: o4 :: o5 :: o6 :: o7 :: o8 :: o9 :: o10 :: some (fm_I x) :: t) (fm_I x :: st)) : fm_W S ω Γ M P σ pc (o0 :: o1 :: o2 :: o3 :: o4 :: o5 :: o6 :: o7 :: o8 :: o9 :: o10 :: some (fm_I x) :: t) (st) := by
  intro C hL H locs ls hP hS hl
  obtain ⟨hx, hb, hml, hown, hts, hr, hlk, hK, hD⟩ := id C
  exact lv_iload hx hb hd (hl.2.2 11 _ rfl) (k C hL H locs ls hP hS hl)
theorem fm_ald11 {o0 o1 o2 o3 o4 o5 o6 o7 o8 o9 o10 : Option Value} {x : Nat} {t : List (Option Value)} (hd : decode M.1 pc = .ok (.aload 11, 2)) (k : fm_W S ω Γ M P σ (pc + 2) (o0 :: o1 :: o2 :: o3 :: o4 :: o5 :: o6 :: o7 :: o8 :: o9 :: o10 :: some (fm_r ω x) :: t) (fm_r ω x :: st)) : fm_W S ω Γ M P σ pc (o0 :: o1 :: o2 :: o3 :: o4 :: o5 :: o6 :: o7 :: o8 :: o9 :: o10 :: some (fm_r ω x) :: t) (st) := by
  intro C hL H locs ls hP hS hl
  obtain ⟨hx, hb, hml, hown, hts, hr, hlk, hK, hD⟩ := id C
  exact lv_aload hx hb hd (hl.2.2 11 _ rfl) (k C hL H locs ls hP hS hl)
theorem fm_ist11 {o0 o1 o2 o3 o4 o5 o6 o7 o8 o9 o10 : Option Value} {o : Option Value} {x : Int} {t : List (Option Value)} (hc : fm_c1 o10 = true) (hd : decode M.1 pc = .ok (.istore 11, 2)) (k : fm_W S ω Γ M P σ (pc + 2) (o0 :: o1 :: o2 :: o3 :: o4 :: o5 :: o6 :: o7 :: o8 :: o9 :: o10 :: some (fm_I x) :: t) (st)) : fm_W S ω Γ M P σ pc (o0 :: o1 :: o2 :: o3 :: o4 :: o5 :: o6 :: o7 :: o8 :: o9 :: o10 :: o :: t) (fm_I x :: st) := by
  intro C hL H locs ls hP hS hl
  obtain ⟨hx, hb, hml, hown, hts, hr, hlk, hK, hD⟩ := id C
  refine lv_istore hx hb hd hl.has (by simp) rfl (fun ls2 hl2 => ?_)
  have h9 : ∀ (j : Nat) (ow : Option Value), j + 1 = 11 → (o0 :: o1 :: o2 :: o3 :: o4 :: o5 :: o6 :: o7 :: o8 :: o9 :: o10 :: o :: t)[j]? = some ow → fm_c1 ow = true := by
    intro j ow hj ho
    have hj9 : j = 10 := by omega
    subst hj9
    have e9 : o10 = ow := Option.some.inj ho
    rw [← e9]
    exact hc
  have hl3 := fm_L.put (L := o0 :: o1 :: o2 :: o3 :: o4 :: o5 :: o6 :: o7 :: o8 :: o9 :: o10 :: o :: t) (i := 11) (by simp) h9 hl2
  exact k C hL H locs ls2 hP hS hl3
theorem fm_ast11 {o0 o1 o2 o3 o4 o5 o6 o7 o8 o9 o10 : Option Value} {o : Option Value} {x : Nat} {t : List (Option Value)} (hc : fm_c1 o10 = true) (hd : decode M.1 pc = .ok (.astore 11, 2)) (k : fm_W S ω Γ M P σ (pc + 2) (o0 :: o1 :: o2 :: o3 :: o4 :: o5 :: o6 :: o7 :: o8 :: o9 :: o10 :: some (fm_r ω x) :: t) (st)) : fm_W S ω Γ M P σ pc (o0 :: o1 :: o2 :: o3 :: o4 :: o5 :: o6 :: o7 :: o8 :: o9 :: o10 :: o :: t) (fm_r ω x :: st) := by
  intro C hL H locs ls hP hS hl
  obtain ⟨hx, hb, hml, hown, hts, hr, hlk, hK, hD⟩ := id C
  refine lv_astore hx hb hd hl.has (by simp) rfl (fun ls2 hl2 => ?_)
  have h9 : ∀ (j : Nat) (ow : Option Value), j + 1 = 11 → (o0 :: o1 :: o2 :: o3 :: o4 :: o5 :: o6 :: o7 :: o8 :: o9 :: o10 :: o :: t)[j]? = some ow → fm_c1 ow = true := by
    intro j ow hj ho
    have hj9 : j = 10 := by omega
    subst hj9
    have e9 : o10 = ow := Option.some.inj ho
    rw [← e9]
    exact hc
  have hl3 := fm_L.put (L := o0 :: o1 :: o2 :: o3 :: o4 :: o5 :: o6 :: o7 :: o8 :: o9 :: o10 :: o :: t) (i := 11) (by simp) h9 hl2
  exact k C hL H locs ls2 hP hS hl3
theorem fm_inc11 {o0 o1 o2 o3 o4 o5 o6 o7 o8 o9 o10 : Option Value} {x n : Int} {t : List (Option Value)} (hc : fm_c1 o10 = true) (hd : decode M.1 pc = .ok (.iinc 11 n, 3)) (k : fm_W S ω Γ M P σ (pc + 3) (o0 :: o1 :: o2 :: o3 :: o4 :: o5 :: o6 :: o7 :: o8 :: o9 :: o10 :: some (fm_I (x + n)) :: t) (st)) : fm_W S ω Γ M P σ pc (o0 :: o1 :: o2 :: o3 :: o4 :: o5 :: o6 :: o7 :: o8 :: o9 :: o10 :: some (fm_I x) :: t) (st) := by
  intro C hL H locs ls hP hS hl
  obtain ⟨hx, hb, hml, hown, hts, hr, hlk, hK, hD⟩ := id C
  obtain ⟨q, hq⟩ := List.getElem?_of_mem (fm_al_mem (L := o0 :: o1 :: o2 :: o3 :: o4 :: o5 :: o6 :: o7 :: o8 :: o9 :: o10 :: some (fm_I x) :: t) (q := (11, fm_I x)).mpr rfl)
  refine lv_iinc (v := Int32.ofInt (x + n)) hx hb hd hl.has (k := q) hq (Int32.ofInt_add x n).symm (by simp) rfl (fun ls2 hl2 => ?_)
  have h9 : ∀ (j : Nat) (ow : Option Value), j + 1 = 11 → (o0 :: o1 :: o2 :: o3 :: o4 :: o5 :: o6 :: o7 :: o8 :: o9 :: o10 :: some (fm_I x) :: t)[j]? = some ow → fm_c1 ow = true := by
    intro j ow hj ho
    have hj9 : j = 10 := by omega
    subst hj9
    have e9 : o10 = ow := Option.some.inj ho
    rw [← e9]
    exact hc
  have hl3 := fm_L.put (L := o0 :: o1 :: o2 :: o3 :: o4 :: o5 :: o6 :: o7 :: o8 :: o9 :: o10 :: some (fm_I x) :: t) (i := 11) (by simp) h9 hl2
  exact k C hL H locs ls2 hP hS hl3
theorem fm_ild12 {o0 o1 o2 o3 o4 o5 o6 o7 o8 o9 o10 o11 : Option Value} {x : Int} {t : List (Option Value)} (hd : decode M.1 pc = .ok (.iload 12, 2)) (k : fm_W S ω Γ M P σ (pc + 2) (o0 :: o1 :: o2 :: o3 :: o4 :: o5 :: o6 :: o7 :: o8 :: o9 :: o10 :: o11 :: some (fm_I x) :: t) (fm_I x :: st)) : fm_W S ω Γ M P σ pc (o0 :: o1 :: o2 :: o3 :: o4 :: o5 :: o6 :: o7 :: o8 :: o9 :: o10 :: o11 :: some (fm_I x) :: t) (st) := by
  intro C hL H locs ls hP hS hl
  obtain ⟨hx, hb, hml, hown, hts, hr, hlk, hK, hD⟩ := id C
  exact lv_iload hx hb hd (hl.2.2 12 _ rfl) (k C hL H locs ls hP hS hl)
theorem fm_ald12 {o0 o1 o2 o3 o4 o5 o6 o7 o8 o9 o10 o11 : Option Value} {x : Nat} {t : List (Option Value)} (hd : decode M.1 pc = .ok (.aload 12, 2)) (k : fm_W S ω Γ M P σ (pc + 2) (o0 :: o1 :: o2 :: o3 :: o4 :: o5 :: o6 :: o7 :: o8 :: o9 :: o10 :: o11 :: some (fm_r ω x) :: t) (fm_r ω x :: st)) : fm_W S ω Γ M P σ pc (o0 :: o1 :: o2 :: o3 :: o4 :: o5 :: o6 :: o7 :: o8 :: o9 :: o10 :: o11 :: some (fm_r ω x) :: t) (st) := by
  intro C hL H locs ls hP hS hl
  obtain ⟨hx, hb, hml, hown, hts, hr, hlk, hK, hD⟩ := id C
  exact lv_aload hx hb hd (hl.2.2 12 _ rfl) (k C hL H locs ls hP hS hl)
theorem fm_ist12 {o0 o1 o2 o3 o4 o5 o6 o7 o8 o9 o10 o11 : Option Value} {o : Option Value} {x : Int} {t : List (Option Value)} (hc : fm_c1 o11 = true) (hd : decode M.1 pc = .ok (.istore 12, 2)) (k : fm_W S ω Γ M P σ (pc + 2) (o0 :: o1 :: o2 :: o3 :: o4 :: o5 :: o6 :: o7 :: o8 :: o9 :: o10 :: o11 :: some (fm_I x) :: t) (st)) : fm_W S ω Γ M P σ pc (o0 :: o1 :: o2 :: o3 :: o4 :: o5 :: o6 :: o7 :: o8 :: o9 :: o10 :: o11 :: o :: t) (fm_I x :: st) := by
  intro C hL H locs ls hP hS hl
  obtain ⟨hx, hb, hml, hown, hts, hr, hlk, hK, hD⟩ := id C
  refine lv_istore hx hb hd hl.has (by simp) rfl (fun ls2 hl2 => ?_)
  have h9 : ∀ (j : Nat) (ow : Option Value), j + 1 = 12 → (o0 :: o1 :: o2 :: o3 :: o4 :: o5 :: o6 :: o7 :: o8 :: o9 :: o10 :: o11 :: o :: t)[j]? = some ow → fm_c1 ow = true := by
    intro j ow hj ho
    have hj9 : j = 11 := by omega
    subst hj9
    have e9 : o11 = ow := Option.some.inj ho
    rw [← e9]
    exact hc
  have hl3 := fm_L.put (L := o0 :: o1 :: o2 :: o3 :: o4 :: o5 :: o6 :: o7 :: o8 :: o9 :: o10 :: o11 :: o :: t) (i := 12) (by simp) h9 hl2
  exact k C hL H locs ls2 hP hS hl3
theorem fm_ast12 {o0 o1 o2 o3 o4 o5 o6 o7 o8 o9 o10 o11 : Option Value} {o : Option Value} {x : Nat} {t : List (Option Value)} (hc : fm_c1 o11 = true) (hd : decode M.1 pc = .ok (.astore 12, 2)) (k : fm_W S ω Γ M P σ (pc + 2) (o0 :: o1 :: o2 :: o3 :: o4 :: o5 :: o6 :: o7 :: o8 :: o9 :: o10 :: o11 :: some (fm_r ω x) :: t) (st)) : fm_W S ω Γ M P σ pc (o0 :: o1 :: o2 :: o3 :: o4 :: o5 :: o6 :: o7 :: o8 :: o9 :: o10 :: o11 :: o :: t) (fm_r ω x :: st) := by
  intro C hL H locs ls hP hS hl
  obtain ⟨hx, hb, hml, hown, hts, hr, hlk, hK, hD⟩ := id C
  refine lv_astore hx hb hd hl.has (by simp) rfl (fun ls2 hl2 => ?_)
  have h9 : ∀ (j : Nat) (ow : Option Value), j + 1 = 12 → (o0 :: o1 :: o2 :: o3 :: o4 :: o5 :: o6 :: o7 :: o8 :: o9 :: o10 :: o11 :: o :: t)[j]? = some ow → fm_c1 ow = true := by
    intro j ow hj ho
    have hj9 : j = 11 := by omega
    subst hj9
    have e9 : o11 = ow := Option.some.inj ho
    rw [← e9]
    exact hc
  have hl3 := fm_L.put (L := o0 :: o1 :: o2 :: o3 :: o4 :: o5 :: o6 :: o7 :: o8 :: o9 :: o10 :: o11 :: o :: t) (i := 12) (by simp) h9 hl2
  exact k C hL H locs ls2 hP hS hl3
theorem fm_inc12 {o0 o1 o2 o3 o4 o5 o6 o7 o8 o9 o10 o11 : Option Value} {x n : Int} {t : List (Option Value)} (hc : fm_c1 o11 = true) (hd : decode M.1 pc = .ok (.iinc 12 n, 3)) (k : fm_W S ω Γ M P σ (pc + 3) (o0 :: o1 :: o2 :: o3 :: o4 :: o5 :: o6 :: o7 :: o8 :: o9 :: o10 :: o11 :: some (fm_I (x + n)) :: t) (st)) : fm_W S ω Γ M P σ pc (o0 :: o1 :: o2 :: o3 :: o4 :: o5 :: o6 :: o7 :: o8 :: o9 :: o10 :: o11 :: some (fm_I x) :: t) (st) := by
  intro C hL H locs ls hP hS hl
  obtain ⟨hx, hb, hml, hown, hts, hr, hlk, hK, hD⟩ := id C
  obtain ⟨q, hq⟩ := List.getElem?_of_mem (fm_al_mem (L := o0 :: o1 :: o2 :: o3 :: o4 :: o5 :: o6 :: o7 :: o8 :: o9 :: o10 :: o11 :: some (fm_I x) :: t) (q := (12, fm_I x)).mpr rfl)
  refine lv_iinc (v := Int32.ofInt (x + n)) hx hb hd hl.has (k := q) hq (Int32.ofInt_add x n).symm (by simp) rfl (fun ls2 hl2 => ?_)
  have h9 : ∀ (j : Nat) (ow : Option Value), j + 1 = 12 → (o0 :: o1 :: o2 :: o3 :: o4 :: o5 :: o6 :: o7 :: o8 :: o9 :: o10 :: o11 :: some (fm_I x) :: t)[j]? = some ow → fm_c1 ow = true := by
    intro j ow hj ho
    have hj9 : j = 11 := by omega
    subst hj9
    have e9 : o11 = ow := Option.some.inj ho
    rw [← e9]
    exact hc
  have hl3 := fm_L.put (L := o0 :: o1 :: o2 :: o3 :: o4 :: o5 :: o6 :: o7 :: o8 :: o9 :: o10 :: o11 :: some (fm_I x) :: t) (i := 12) (by simp) h9 hl2
  exact k C hL H locs ls2 hP hS hl3
theorem fm_ild13 {o0 o1 o2 o3 o4 o5 o6 o7 o8 o9 o10 o11 o12 : Option Value} {x : Int} {t : List (Option Value)} (hd : decode M.1 pc = .ok (.iload 13, 2)) (k : fm_W S ω Γ M P σ (pc + 2) (o0 :: o1 :: o2 :: o3 :: o4 :: o5 :: o6 :: o7 :: o8 :: o9 :: o10 :: o11 :: o12 :: some (fm_I x) :: t) (fm_I x :: st)) : fm_W S ω Γ M P σ pc (o0 :: o1 :: o2 :: o3 :: o4 :: o5 :: o6 :: o7 :: o8 :: o9 :: o10 :: o11 :: o12 :: some (fm_I x) :: t) (st) := by
  intro C hL H locs ls hP hS hl
  obtain ⟨hx, hb, hml, hown, hts, hr, hlk, hK, hD⟩ := id C
  exact lv_iload hx hb hd (hl.2.2 13 _ rfl) (k C hL H locs ls hP hS hl)
theorem fm_ald13 {o0 o1 o2 o3 o4 o5 o6 o7 o8 o9 o10 o11 o12 : Option Value} {x : Nat} {t : List (Option Value)} (hd : decode M.1 pc = .ok (.aload 13, 2)) (k : fm_W S ω Γ M P σ (pc + 2) (o0 :: o1 :: o2 :: o3 :: o4 :: o5 :: o6 :: o7 :: o8 :: o9 :: o10 :: o11 :: o12 :: some (fm_r ω x) :: t) (fm_r ω x :: st)) : fm_W S ω Γ M P σ pc (o0 :: o1 :: o2 :: o3 :: o4 :: o5 :: o6 :: o7 :: o8 :: o9 :: o10 :: o11 :: o12 :: some (fm_r ω x) :: t) (st) := by
  intro C hL H locs ls hP hS hl
  obtain ⟨hx, hb, hml, hown, hts, hr, hlk, hK, hD⟩ := id C
  exact lv_aload hx hb hd (hl.2.2 13 _ rfl) (k C hL H locs ls hP hS hl)
theorem fm_ist13 {o0 o1 o2 o3 o4 o5 o6 o7 o8 o9 o10 o11 o12 : Option Value} {o : Option Value} {x : Int} {t : List (Option Value)} (hc : fm_c1 o12 = true) (hd : decode M.1 pc = .ok (.istore 13, 2)) (k : fm_W S ω Γ M P σ (pc + 2) (o0 :: o1 :: o2 :: o3 :: o4 :: o5 :: o6 :: o7 :: o8 :: o9 :: o10 :: o11 :: o12 :: some (fm_I x) :: t) (st)) : fm_W S ω Γ M P σ pc (o0 :: o1 :: o2 :: o3 :: o4 :: o5 :: o6 :: o7 :: o8 :: o9 :: o10 :: o11 :: o12 :: o :: t) (fm_I x :: st) := by
  intro C hL H locs ls hP hS hl
  obtain ⟨hx, hb, hml, hown, hts, hr, hlk, hK, hD⟩ := id C
  refine lv_istore hx hb hd hl.has (by simp) rfl (fun ls2 hl2 => ?_)
  have h9 : ∀ (j : Nat) (ow : Option Value), j + 1 = 13 → (o0 :: o1 :: o2 :: o3 :: o4 :: o5 :: o6 :: o7 :: o8 :: o9 :: o10 :: o11 :: o12 :: o :: t)[j]? = some ow → fm_c1 ow = true := by
    intro j ow hj ho
    have hj9 : j = 12 := by omega
    subst hj9
    have e9 : o12 = ow := Option.some.inj ho
    rw [← e9]
    exact hc
  have hl3 := fm_L.put (L := o0 :: o1 :: o2 :: o3 :: o4 :: o5 :: o6 :: o7 :: o8 :: o9 :: o10 :: o11 :: o12 :: o :: t) (i := 13) (by simp) h9 hl2
  exact k C hL H locs ls2 hP hS hl3
theorem fm_ast13 {o0 o1 o2 o3 o4 o5 o6 o7 o8 o9 o10 o11 o12 : Option Value} {o : Option Value} {x : Nat} {t : List (Option Value)} (hc : fm_c1 o12 = true) (hd : decode M.1 pc = .ok (.astore 13, 2)) (k : fm_W S ω Γ M P σ (pc + 2) (o0 :: o1 :: o2 :: o3 :: o4 :: o5 :: o6 :: o7 :: o8 :: o9 :: o10 :: o11 :: o12 :: some (fm_r ω x) :: t) (st)) : fm_W S ω Γ M P σ pc (o0 :: o1 :: o2 :: o3 :: o4 :: o5 :: o6 :: o7 :: o8 :: o9 :: o10 :: o11 :: o12 :: o :: t) (fm_r ω x :: st) := by
  intro C hL H locs ls hP hS hl
  obtain ⟨hx, hb, hml, hown, hts, hr, hlk, hK, hD⟩ := id C
  refine lv_astore hx hb hd hl.has (by simp) rfl (fun ls2 hl2 => ?_)
  have h9 : ∀ (j : Nat) (ow : Option Value), j + 1 = 13 → (o0 :: o1 :: o2 :: o3 :: o4 :: o5 :: o6 :: o7 :: o8 :: o9 :: o10 :: o11 :: o12 :: o :: t)[j]? = some ow → fm_c1 ow = true := by
    intro j ow hj ho
    have hj9 : j = 12 := by omega
    subst hj9
    have e9 : o12 = ow := Option.some.inj ho
    rw [← e9]
    exact hc
  have hl3 := fm_L.put (L := o0 :: o1 :: o2 :: o3 :: o4 :: o5 :: o6 :: o7 :: o8 :: o9 :: o10 :: o11 :: o12 :: o :: t) (i := 13) (by simp) h9 hl2
  exact k C hL H locs ls2 hP hS hl3
theorem fm_inc13 {o0 o1 o2 o3 o4 o5 o6 o7 o8 o9 o10 o11 o12 : Option Value} {x n : Int} {t : List (Option Value)} (hc : fm_c1 o12 = true) (hd : decode M.1 pc = .ok (.iinc 13 n, 3)) (k : fm_W S ω Γ M P σ (pc + 3) (o0 :: o1 :: o2 :: o3 :: o4 :: o5 :: o6 :: o7 :: o8 :: o9 :: o10 :: o11 :: o12 :: some (fm_I (x + n)) :: t) (st)) : fm_W S ω Γ M P σ pc (o0 :: o1 :: o2 :: o3 :: o4 :: o5 :: o6 :: o7 :: o8 :: o9 :: o10 :: o11 :: o12 :: some (fm_I x) :: t) (st) := by
  intro C hL H locs ls hP hS hl
  obtain ⟨hx, hb, hml, hown, hts, hr, hlk, hK, hD⟩ := id C
  obtain ⟨q, hq⟩ := List.getElem?_of_mem (fm_al_mem (L := o0 :: o1 :: o2 :: o3 :: o4 :: o5 :: o6 :: o7 :: o8 :: o9 :: o10 :: o11 :: o12 :: some (fm_I x) :: t) (q := (13, fm_I x)).mpr rfl)
  refine lv_iinc (v := Int32.ofInt (x + n)) hx hb hd hl.has (k := q) hq (Int32.ofInt_add x n).symm (by simp) rfl (fun ls2 hl2 => ?_)
  have h9 : ∀ (j : Nat) (ow : Option Value), j + 1 = 13 → (o0 :: o1 :: o2 :: o3 :: o4 :: o5 :: o6 :: o7 :: o8 :: o9 :: o10 :: o11 :: o12 :: some (fm_I x) :: t)[j]? = some ow → fm_c1 ow = true := by
    intro j ow hj ho
    have hj9 : j = 12 := by omega
    subst hj9
    have e9 : o12 = ow := Option.some.inj ho
    rw [← e9]
    exact hc
  have hl3 := fm_L.put (L := o0 :: o1 :: o2 :: o3 :: o4 :: o5 :: o6 :: o7 :: o8 :: o9 :: o10 :: o11 :: o12 :: some (fm_I x) :: t) (i := 13) (by simp) h9 hl2
  exact k C hL H locs ls2 hP hS hl3
theorem fm_icmp_eq {x y : Int} (rx : fm_R x) (ry : fm_R y) {off : Int} (tgt : Nat) (hd : decode M.1 pc = .ok (.if_icmp .eq off, 3)) (ht : (pc : Int) + off = (tgt : Int)) (kt : x = y → fm_W S ω Γ M P σ tgt L st) (kf : ¬ (x = y) → fm_W S ω Γ M P σ (pc + 3) L st) : fm_W S ω Γ M P σ pc L (fm_I y :: fm_I x :: st) := by
  intro C hL H locs ls hP hS hl
  obtain ⟨hx, hb, -⟩ := id C
  exact lv_icmp_eq hx hb hd ht (fun q => kt ((fm_eq rx ry).mp q) C hL H locs ls hP hS hl) (fun q => kf (fun r => q ((fm_eq rx ry).mpr r)) C hL H locs ls hP hS hl)
theorem fm_icmp_ne {x y : Int} (rx : fm_R x) (ry : fm_R y) {off : Int} (tgt : Nat) (hd : decode M.1 pc = .ok (.if_icmp .ne off, 3)) (ht : (pc : Int) + off = (tgt : Int)) (kt : ¬ (x = y) → fm_W S ω Γ M P σ tgt L st) (kf : x = y → fm_W S ω Γ M P σ (pc + 3) L st) : fm_W S ω Γ M P σ pc L (fm_I y :: fm_I x :: st) := by
  intro C hL H locs ls hP hS hl
  obtain ⟨hx, hb, -⟩ := id C
  exact lv_icmp_ne hx hb hd ht (fun q => kt (fun r => q ((fm_eq rx ry).mpr r)) C hL H locs ls hP hS hl) (fun q => kf ((fm_eq rx ry).mp q) C hL H locs ls hP hS hl)
theorem fm_icmp_lt {x y : Int} (rx : fm_R x) (ry : fm_R y) {off : Int} (tgt : Nat) (hd : decode M.1 pc = .ok (.if_icmp .lt off, 3)) (ht : (pc : Int) + off = (tgt : Int)) (kt : x < y → fm_W S ω Γ M P σ tgt L st) (kf : ¬ (x < y) → fm_W S ω Γ M P σ (pc + 3) L st) : fm_W S ω Γ M P σ pc L (fm_I y :: fm_I x :: st) := by
  intro C hL H locs ls hP hS hl
  obtain ⟨hx, hb, -⟩ := id C
  exact lv_icmp_lt hx hb hd ht (fun q => kt ((fm_lt rx ry).mp q) C hL H locs ls hP hS hl) (fun q => kf (fun r => q ((fm_lt rx ry).mpr r)) C hL H locs ls hP hS hl)
theorem fm_icmp_ge {x y : Int} (rx : fm_R x) (ry : fm_R y) {off : Int} (tgt : Nat) (hd : decode M.1 pc = .ok (.if_icmp .ge off, 3)) (ht : (pc : Int) + off = (tgt : Int)) (kt : y ≤ x → fm_W S ω Γ M P σ tgt L st) (kf : ¬ (y ≤ x) → fm_W S ω Γ M P σ (pc + 3) L st) : fm_W S ω Γ M P σ pc L (fm_I y :: fm_I x :: st) := by
  intro C hL H locs ls hP hS hl
  obtain ⟨hx, hb, -⟩ := id C
  exact lv_icmp_ge hx hb hd ht (fun q => kt ((fm_le ry rx).mp q) C hL H locs ls hP hS hl) (fun q => kf (fun r => q ((fm_le ry rx).mpr r)) C hL H locs ls hP hS hl)
theorem fm_icmp_gt {x y : Int} (rx : fm_R x) (ry : fm_R y) {off : Int} (tgt : Nat) (hd : decode M.1 pc = .ok (.if_icmp .gt off, 3)) (ht : (pc : Int) + off = (tgt : Int)) (kt : y < x → fm_W S ω Γ M P σ tgt L st) (kf : ¬ (y < x) → fm_W S ω Γ M P σ (pc + 3) L st) : fm_W S ω Γ M P σ pc L (fm_I y :: fm_I x :: st) := by
  intro C hL H locs ls hP hS hl
  obtain ⟨hx, hb, -⟩ := id C
  exact lv_icmp_gt hx hb hd ht (fun q => kt ((fm_lt ry rx).mp q) C hL H locs ls hP hS hl) (fun q => kf (fun r => q ((fm_lt ry rx).mpr r)) C hL H locs ls hP hS hl)
theorem fm_icmp_le {x y : Int} (rx : fm_R x) (ry : fm_R y) {off : Int} (tgt : Nat) (hd : decode M.1 pc = .ok (.if_icmp .le off, 3)) (ht : (pc : Int) + off = (tgt : Int)) (kt : x ≤ y → fm_W S ω Γ M P σ tgt L st) (kf : ¬ (x ≤ y) → fm_W S ω Γ M P σ (pc + 3) L st) : fm_W S ω Γ M P σ pc L (fm_I y :: fm_I x :: st) := by
  intro C hL H locs ls hP hS hl
  obtain ⟨hx, hb, -⟩ := id C
  exact lv_icmp_le hx hb hd ht (fun q => kt ((fm_le rx ry).mp q) C hL H locs ls hP hS hl) (fun q => kf (fun r => q ((fm_le rx ry).mpr r)) C hL H locs ls hP hS hl)
theorem fm_if_eq {x : Int} (rx : fm_R x) {off : Int} (tgt : Nat) (hd : decode M.1 pc = .ok (.ifCond .eq off, 3)) (ht : (pc : Int) + off = (tgt : Int)) (kt : x = 0 → fm_W S ω Γ M P σ tgt L st) (kf : ¬ (x = 0) → fm_W S ω Γ M P σ (pc + 3) L st) : fm_W S ω Γ M P σ pc L (fm_I x :: st) := by
  intro C hL H locs ls hP hS hl
  obtain ⟨hx, hb, -⟩ := id C
  exact lv_if_eq hx hb hd ht (fun q => kt ((fm_eq rx ⟨by decide, by decide⟩).mp q) C hL H locs ls hP hS hl) (fun q => kf (fun r => q ((fm_eq rx ⟨by decide, by decide⟩).mpr r)) C hL H locs ls hP hS hl)
theorem fm_if_ne {x : Int} (rx : fm_R x) {off : Int} (tgt : Nat) (hd : decode M.1 pc = .ok (.ifCond .ne off, 3)) (ht : (pc : Int) + off = (tgt : Int)) (kt : ¬ (x = 0) → fm_W S ω Γ M P σ tgt L st) (kf : x = 0 → fm_W S ω Γ M P σ (pc + 3) L st) : fm_W S ω Γ M P σ pc L (fm_I x :: st) := by
  intro C hL H locs ls hP hS hl
  obtain ⟨hx, hb, -⟩ := id C
  exact lv_if_ne hx hb hd ht (fun q => kt (fun r => q ((fm_eq rx ⟨by decide, by decide⟩).mpr r)) C hL H locs ls hP hS hl) (fun q => kf ((fm_eq rx ⟨by decide, by decide⟩).mp q) C hL H locs ls hP hS hl)
theorem fm_if_lt {x : Int} (rx : fm_R x) {off : Int} (tgt : Nat) (hd : decode M.1 pc = .ok (.ifCond .lt off, 3)) (ht : (pc : Int) + off = (tgt : Int)) (kt : x < 0 → fm_W S ω Γ M P σ tgt L st) (kf : ¬ (x < 0) → fm_W S ω Γ M P σ (pc + 3) L st) : fm_W S ω Γ M P σ pc L (fm_I x :: st) := by
  intro C hL H locs ls hP hS hl
  obtain ⟨hx, hb, -⟩ := id C
  exact lv_if_lt hx hb hd ht (fun q => kt ((fm_lt rx ⟨by decide, by decide⟩).mp q) C hL H locs ls hP hS hl) (fun q => kf (fun r => q ((fm_lt rx ⟨by decide, by decide⟩).mpr r)) C hL H locs ls hP hS hl)
theorem fm_if_ge {x : Int} (rx : fm_R x) {off : Int} (tgt : Nat) (hd : decode M.1 pc = .ok (.ifCond .ge off, 3)) (ht : (pc : Int) + off = (tgt : Int)) (kt : 0 ≤ x → fm_W S ω Γ M P σ tgt L st) (kf : ¬ (0 ≤ x) → fm_W S ω Γ M P σ (pc + 3) L st) : fm_W S ω Γ M P σ pc L (fm_I x :: st) := by
  intro C hL H locs ls hP hS hl
  obtain ⟨hx, hb, -⟩ := id C
  exact lv_if_ge hx hb hd ht (fun q => kt ((fm_le ⟨by decide, by decide⟩ rx).mp q) C hL H locs ls hP hS hl) (fun q => kf (fun r => q ((fm_le ⟨by decide, by decide⟩ rx).mpr r)) C hL H locs ls hP hS hl)
theorem fm_if_gt {x : Int} (rx : fm_R x) {off : Int} (tgt : Nat) (hd : decode M.1 pc = .ok (.ifCond .gt off, 3)) (ht : (pc : Int) + off = (tgt : Int)) (kt : 0 < x → fm_W S ω Γ M P σ tgt L st) (kf : ¬ (0 < x) → fm_W S ω Γ M P σ (pc + 3) L st) : fm_W S ω Γ M P σ pc L (fm_I x :: st) := by
  intro C hL H locs ls hP hS hl
  obtain ⟨hx, hb, -⟩ := id C
  exact lv_if_gt hx hb hd ht (fun q => kt ((fm_lt ⟨by decide, by decide⟩ rx).mp q) C hL H locs ls hP hS hl) (fun q => kf (fun r => q ((fm_lt ⟨by decide, by decide⟩ rx).mpr r)) C hL H locs ls hP hS hl)
theorem fm_if_le {x : Int} (rx : fm_R x) {off : Int} (tgt : Nat) (hd : decode M.1 pc = .ok (.ifCond .le off, 3)) (ht : (pc : Int) + off = (tgt : Int)) (kt : x ≤ 0 → fm_W S ω Γ M P σ tgt L st) (kf : ¬ (x ≤ 0) → fm_W S ω Γ M P σ (pc + 3) L st) : fm_W S ω Γ M P σ pc L (fm_I x :: st) := by
  intro C hL H locs ls hP hS hl
  obtain ⟨hx, hb, -⟩ := id C
  exact lv_if_le hx hb hd ht (fun q => kt ((fm_le rx ⟨by decide, by decide⟩).mp q) C hL H locs ls hP hS hl) (fun q => kf (fun r => q ((fm_le rx ⟨by decide, by decide⟩).mpr r)) C hL H locs ls hP hS hl)
theorem fm_goto {off : Int} (tgt : Nat) (hd : decode M.1 pc = .ok (.goto off, 3)) (ht : (pc : Int) + off = (tgt : Int)) (k : fm_W S ω Γ M P σ tgt L st) : fm_W S ω Γ M P σ pc L st := by
  intro C hL H locs ls hP hS hl
  obtain ⟨hx, hb, -⟩ := id C
  exact lv_goto hx hb hd ht (k C hL H locs ls hP hS hl)
theorem fm_tabOut {dflt lo hi : Int} {offs : Array Int} {len : Nat} {x : Int} (rx : fm_R x) (tgt : Nat) (hd : decode M.1 pc = .ok (.tableswitch dflt lo hi offs, len)) (h : x < lo ∨ hi < x) (ht : (pc : Int) + dflt = (tgt : Int)) (k : fm_W S ω Γ M P σ tgt L st) : fm_W S ω Γ M P σ pc L (fm_I x :: st) := by
  intro C hL H locs ls hP hS hl
  obtain ⟨hx, hb, -⟩ := id C
  exact lv_tableOut hx hb hd (by rw [fm_ofI rx.1 rx.2]; exact h) ht (k C hL H locs ls hP hS hl)
theorem fm_tabIn {dflt lo hi : Int} {offs : Array Int} {len : Nat} {off x : Int} (tgt : Nat) (hd : decode M.1 pc = .ok (.tableswitch dflt lo hi offs, len)) (rx : fm_R x) (h1 : ¬ x < lo) (h2 : ¬ hi < x) (ho : offs[(x - lo).toNat]? = some off) (ht : (pc : Int) + off = (tgt : Int)) (k : fm_W S ω Γ M P σ tgt L st) : fm_W S ω Γ M P σ pc L (fm_I x :: st) := by
  intro C hL H locs ls hP hS hl
  obtain ⟨hx, hb, -⟩ := id C
  exact lv_tableIn hx hb hd (by rw [fm_ofI rx.1 rx.2]; exact h1) (by rw [fm_ofI rx.1 rx.2]; exact h2) (by rw [fm_ofI rx.1 rx.2]; exact ho) ht (k C hL H locs ls hP hS hl)

end FM
