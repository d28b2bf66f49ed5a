/-! nw_: constructors. The cells from a0 on are known, n of them, each by its place; a new one is the next -/
def nw_ws (a0 n : Nat) (G : Nat → va_E) : va_W := (List.range n).map (fun i => (a0 + i, G i))
def nw_up (G : Nat → va_E) (i : Nat) (e : va_E) : Nat → va_E := fun j => if j = i then e else G j
def nw_cat (G : Nat → va_E) (n : Nat) (F : Nat → va_E) : Nat → va_E := fun j => if j < n then G j else F (j - n)
theorem nw_at {a0 n i : Nat} {G : Nat → va_E} (h : i < n) : (nw_ws a0 n G)[i]? = some (a0 + i, G i) := by
  unfold nw_ws
  rw [List.getElem?_map, List.getElem?_range h]
  rfl
theorem nw_len {a0 n : Nat} {G : Nat → va_E} : (nw_ws a0 n G).length = n := by simp [nw_ws]
theorem nw_some {a0 n k : Nat} {G : Nat → va_E} {q : Nat × va_E} (h : (nw_ws a0 n G)[k]? = some q) : k < n ∧ q = (a0 + k, G k) := by
  have hk : k < n := by
    have := (List.getElem?_eq_some_iff.mp h).1
    rwa [nw_len] at this
  rw [nw_at hk] at h
  exact ⟨hk, (Option.some.inj h).symm⟩
theorem nw_D {a0 n : Nat} {G : Nat → va_E} : va_D (fun q => a0 ≤ q) (nw_ws a0 n G) := by
  refine ⟨fun i j p q hi hj e => ?_, fun k q hk => ?_⟩
  · obtain ⟨_, rfl⟩ := nw_some hi
    obtain ⟨_, rfl⟩ := nw_some hj
    have e2 : a0 + i = a0 + j := e
    omega
  · obtain ⟨_, rfl⟩ := nw_some hk
    exact Nat.le_add_right _ _
theorem nw_set {a0 n i : Nat} {G : Nat → va_E} {e : va_E} (h : i < n) : (nw_ws a0 n G).set i (a0 + i, e) = nw_ws a0 n (nw_up G i e) := by
  apply List.ext_getElem?
  intro j
  by_cases hj : j < n
  · rw [nw_at hj]
    by_cases e1 : j = i
    · subst e1
      rw [List.getElem?_set_self (by rw [nw_len]; exact h)]
      simp [nw_up]
    · rw [List.getElem?_set_ne (fun q => e1 q.symm), nw_at hj]
      simp [nw_up, e1]
  · rw [List.getElem?_eq_none (by rw [List.length_set, nw_len]; omega), List.getElem?_eq_none (by rw [nw_len]; omega)]
theorem nw_app {a0 n : Nat} {G : Nat → va_E} {e : va_E} : nw_ws a0 n G ++ [(a0 + n, e)] = nw_ws a0 (n + 1) (nw_up G n e) := by
  unfold nw_ws
  rw [List.range_succ, List.map_append]
  congr 1
  · apply List.map_congr_left
    intro i hi
    have := List.mem_range.mp hi
    simp [nw_up, Nat.ne_of_lt this]
  · simp [nw_up]
theorem nw_P {D : va_G} {a0 n : Nat} {G : Nat → va_E} {H : Heap} (h : ∀ i, i < n → va_at D vwCl (a0 + i, G i) H) : va_P D vwCl (nw_ws a0 n G) H := fun k q hk => by
  obtain ⟨h1, rfl⟩ := nw_some hk
  exact h k h1
theorem nw_cong {D : va_G} {a0 n : Nat} {G G' : Nat → va_E} {H : Heap} (h : va_P D vwCl (nw_ws a0 n G) H) (e : ∀ i, i < n → G i = G' i) : va_P D vwCl (nw_ws a0 n G') H := nw_P (fun i hi => by rw [← e i hi]; exact h i _ (nw_at hi))
theorem nw_q {D : va_G} {a0 n q : Nat} {G : Nat → va_E} {e : va_E} {H1 : Heap} (hP : va_P D vwCl (nw_ws a0 n G ++ [(q, e)]) H1) (hD : va_D (fun q => a0 ≤ q) (nw_ws a0 n G ++ [(q, e)])) (hz : H1.size ≤ a0 + (n + 1)) : q = a0 + n ∧ H1.size = a0 + (n + 1) := by
  have hn : (nw_ws a0 n G ++ [(q, e)])[n]? = some (q, e) := by
    rw [List.getElem?_append_right (by rw [nw_len]; exact Nat.le_refl _), nw_len, Nat.sub_self]
    rfl
  have h1 : a0 ≤ q := hD.2 n _ hn
  have h2 : q < H1.size := (hP n _ hn).lt
  have h3 : ¬ q < a0 + n := fun h => by
    have hi : q - a0 < n := by omega
    have := hD.1 (q - a0) n _ _ (by rw [List.getElem?_append_left (by rw [nw_len]; exact hi)]; exact nw_at hi) hn (show a0 + (q - a0) = q by omega)
    omega
  omega
-- words that hold of the machine's tables but are no good words
theorem nw_ao {A A' : Array Value} {u U : State} {ty : FieldType} (h : u.vm = U.vm) (h1 : (Cond.arrayOver ty).before A u = true) : (Cond.arrayOver ty).before A' U = true := by
  unfold Cond.before Cond.holds at h1 ⊢
  simp only [Cond.value] at h1 ⊢
  rw [← h]
  exact h1
def nw_N (U : State) : Prop := va_AO RX3 U ∧ (Cond.arrayOver (.array .int)).before #[] U = true ∧ va_Nw (.methodLinkNest RX8 17 yX4_init RX8) U ∧ va_Nw (.methodLinkNest RX8 28 yX1_init RX8) U ∧ va_Nw (.methodLinkNest RX8 35 yX2_init RX8) U ∧ va_Nw (.methodLinkNest RX8 42 yX0_init RX8) U ∧ va_Nw (.methodLinkNest RX8 49 yX6_init RX8) U ∧ va_Nw (.methodLinkNest RX8 54 yX3_init RX8) U
theorem nw_N.warm {s U : State} (hW : s.WarmedH U.vm) (h : nw_N s) : nw_N U := by
  obtain ⟨h1, h2, h3, h4, h5, h6, h7, h8⟩ := h
  exact ⟨h1.moved hW.alike, nw_ao (A := #[]) (rfl : (s.setVm U.vm).vm = U.vm) (by rw [Cond.arrayOver_setVmC hW.alike]; exact h2), h3.warmM hW, h4.warmM hW, h5.warmM hW, h6.warmM hW, h7.warmM hW, h8.warmM hW⟩
theorem nw_N.same {u U : State} (e : u.vm = U.vm) (h : nw_N u) : nw_N U := by
  obtain ⟨h1, h2, h3, h4, h5, h6, h7, h8⟩ := h
  exact ⟨va_AO.moved (by rw [e]; exact Vm.Alike.refl _) h1, nw_ao e h2, h3.same rfl e, h4.same rfl e, h5.same rfl e, h6.same rfl e, h7.same rfl e, h8.same rfl e⟩
def nw_C (D : va_G) (ct : Nat → ClassId) (Γ : fm_G) (M : fm_M) (a0 : Nat) : Prop :=
  Γ.1.tables.exec = Jvm.exec ∧ Γ.2.2.2.2.2.2.2.code = M.1 ∧ Γ.2.2.2.2.2.2.2.maxLocals = M.2.2.2.1 ∧ Γ.2.2.1.vm.findClass M.2.1 = some Γ.2.2.2.1.cls ∧ (∀ w ∈ fm_T, w.before Γ.2.2.2.2.1 Γ.2.2.1 = true) ∧ va_K D vwCl (fm_tys ct) Γ.2.2.1 ∧ nw_N Γ.2.2.1 ∧ a0 ≤ Γ.2.2.1.heap.size
def nw_I (Γ : fm_G) : Prop := Γ.2.2.2.2.2.2.1.sig.returnType = none ∧ Γ.2.2.2.2.2.2.1.locks = false ∧ Γ.2.2.2.2.2.2.1.name = "<init>"
def nw_W (l : Launch) (D : va_G) (ct : Nat → ClassId) (Γ : fm_G) (M : fm_M) (a0 : Nat) (Q : State → Prop) (n cells slots : Nat) (G : Nat → va_E) (pc : Nat) (L : List (Option Value)) (st : List Value) : Prop :=
  nw_C D ct Γ M a0 → L.length = M.2.2.2.1 → Γ.2.2.1.heap.size + cells = a0 + n → ∀ (H : Heap) (locs : List Loc) (ls : Array Slot), va_P D vwCl (nw_ws a0 n G) H → va_S (fun q => a0 ≤ q) Γ.2.2.1.heap H locs → H.size = a0 + n → fm_L ls L →
    W Γ.1 l Γ.2.1 M.2.2.1 Γ.2.2.1 Γ.2.2.2.1 Γ.2.2.2.2.1 Γ.2.2.2.2.2.1 Γ.2.2.2.2.2.2.1 Γ.2.2.2.2.2.2.2 H locs cells slots Q (F0 Γ.2.2.2.1 pc ls st)
def nw_Qc (a0 n : Nat) (Φ : Heap → Prop) : Array Value → State → Outcome → State → Prop := fun _ st o t => o = .returned none ∧ t.heap.size = a0 + n ∧ Φ t.heap ∧ ∀ q, q < a0 → t.heap[q]? = st.heap[q]?
def nw_Met (l : Launch) (D : va_G) (ct : Nat → ClassId) (y : MethodName) (cc : ByteArray) (nL : Nat) (rm : Room) (av : List Value) (a0 : Nat) (e0 : va_E) (n : Nat) (Φ : Heap → Prop) : Prop :=
  Met l y (Cond.code y cc nL none :: fm_T) rm (va_Pc av (fun U => U.heap.size = a0 + 1 ∧ va_at D vwCl (a0, e0) U.heap ∧ va_K D vwCl (fm_tys ct) U ∧ nw_N U)) (nw_Qc a0 n Φ) rm.cells rm.slots (fun q => a0 ≤ q)
theorem nw_size {p : Program} {l : Launch} {e : Env} {R : Room} {s : State} {m : MethodId} {args : Array Value} {below : List Frame} {meth : Method} {c : Code} {H : Heap} {locs : List Loc} {cells slots : Nat} {Q : State → Prop} {g : JFrame} (k : H.size ≤ s.heap.size + cells → W p l e R s m args below meth c H locs cells slots Q g) : W p l e R s m args below meth c H locs cells slots Q g := fun T hT X => k (by rw [← hT]; exact X.heapSize) T hT X
section NW
variable {l : Launch} {D : va_G} {ct : Nat → ClassId} {Γ : fm_G} {M : fm_M} {a0 : Nat} {Q : State → Prop} {n cells slots : Nat} {G : Nat → va_E} {pc : Nat} {L : List (Option Value)} {st : List Value}
theorem nw_iconst {z : Int} (hd : decode M.1 pc = .ok (.iconst z, 1)) (k : nw_W l D ct Γ M a0 Q n cells slots G (pc + 1) L (fm_I z :: st)) : nw_W l D ct Γ M a0 Q n cells slots G pc L st := by
  intro C hL hz H locs ls hP hS hH hl
  obtain ⟨hx, hb, -⟩ := id C
  exact lv_iconst hx hb hd rfl (k C hL hz H locs ls hP hS hH hl)
theorem nw_bipush {z : Int} (hv : (Int8.ofInt z).toInt32 = Int32.ofInt z) (hd : decode M.1 pc = .ok (.bipush z, 2)) (k : nw_W l D ct Γ M a0 Q n cells slots G (pc + 2) L (fm_I z :: st)) : nw_W l D ct Γ M a0 Q n cells slots G pc L st := by
  intro C hL hz H locs ls hP hS hH hl
  obtain ⟨hx, hb, -⟩ := id C
  exact lv_bipush hx hb hd hv (k C hL hz H locs ls hP hS hH hl)
theorem nw_sipush {z : Int} (hv : (Int16.ofInt z).toInt32 = Int32.ofInt z) (hd : decode M.1 pc = .ok (.sipush z, 3)) (k : nw_W l D ct Γ M a0 Q n cells slots G (pc + 3) L (fm_I z :: st)) : nw_W l D ct Γ M a0 Q n cells slots G pc L st := by
  intro C hL hz H locs ls hP hS hH hl
  obtain ⟨hx, hb, -⟩ := id C
  exact lv_sipush hx hb hd hv (k C hL hz H locs ls hP hS hH hl)
theorem nw_dup {a : Nat} (hd : decode M.1 pc = .ok (.dup, 1)) (k : nw_W l D ct Γ M a0 Q n cells slots G (pc + 1) L (.ref a :: .ref a :: st)) : nw_W l D ct Γ M a0 Q n cells slots G pc L (.ref a :: st) := by
  intro C hL hz H locs ls hP hS hH hl
  obtain ⟨hx, hb, -⟩ := id C
  exact lv_dup hx hb hd rfl (k C hL hz H locs ls hP hS hH hl)
theorem nw_aload {i : Fin 4} {a : Nat} (hd : decode M.1 pc = .ok (.aload_n i, 1)) (h : L[i.val]? = some (some (.ref a))) (k : nw_W l D ct Γ M a0 Q n cells slots G (pc + 1) L (.ref a :: st)) : nw_W l D ct Γ M a0 Q n cells slots G pc L st := by
  intro C hL hz H locs ls hP hS hH hl
  obtain ⟨hx, hb, -⟩ := id C
  exact lv_aload_n hx hb hd rfl (hl.2.2 i.val _ h) (k C hL hz H locs ls hP hS hH hl)
theorem nw_aload2 {i a : Nat} (hd : decode M.1 pc = .ok (.aload i, 2)) (h : L[i]? = some (some (.ref a))) (k : nw_W l D ct Γ M a0 Q n cells slots G (pc + 2) L (.ref a :: st)) : nw_W l D ct Γ M a0 Q n cells slots G pc L st := by
  intro C hL hz H locs ls hP hS hH hl
  obtain ⟨hx, hb, -⟩ := id C
  exact lv_aload hx hb hd (hl.2.2 i _ h) (k C hL hz H locs ls hP hS hH hl)
theorem nw_iload {i : Fin 4} {z : Int} (hd : decode M.1 pc = .ok (.iload_n i, 1)) (h : L[i.val]? = some (some (fm_I z))) (k : nw_W l D ct Γ M a0 Q n cells slots G (pc + 1) L (fm_I z :: st)) : nw_W l D ct Γ M a0 Q n cells slots G pc L st := by
  intro C hL hz H locs ls hP hS hH hl
  obtain ⟨hx, hb, -⟩ := id C
  exact lv_iload_n hx hb hd rfl (hl.2.2 i.val _ h) (k C hL hz H locs ls hP hS hH hl)
theorem nw_goto {off : Int} (tgt : Nat) (hd : decode M.1 pc = .ok (.goto off, 3)) (ht : (pc : Int) + off = (tgt : Int)) (k : nw_W l D ct Γ M a0 Q n cells slots G tgt L st) : nw_W l D ct Γ M a0 Q n cells slots G pc L st := by
  intro C hL hz H locs ls hP hS hH hl
  obtain ⟨hx, hb, -⟩ := id C
  exact lv_goto hx hb hd ht (k C hL hz H locs ls hP hS hH hl)
theorem nw_geT {x y off : Int} (tgt : Nat) (hd : decode M.1 pc = .ok (.if_icmp .ge off, 3)) (rx : fm_R x) (ry : fm_R y) (h : y ≤ x) (ht : (pc : Int) + off = (tgt : Int)) (k : nw_W l D ct Γ M a0 Q n cells slots G tgt L st) : nw_W l D ct Γ M a0 Q n cells slots G pc L (fm_I y :: fm_I x :: st) := by
  intro C hL hz H locs ls hP hS hH hl
  obtain ⟨hx, hb, -⟩ := id C
  exact lv_icmp_ge hx hb hd ht (fun q => k C hL hz H locs ls hP hS hH hl) (fun q => absurd ((fm_le ry rx).mpr h) q)
theorem nw_geF {x y off : Int} (tgt : Nat) (hd : decode M.1 pc = .ok (.if_icmp .ge off, 3)) (rx : fm_R x) (ry : fm_R y) (h : x < y) (ht : (pc : Int) + off = (tgt : Int)) (k : nw_W l D ct Γ M a0 Q n cells slots G (pc + 3) L st) : nw_W l D ct Γ M a0 Q n cells slots G pc L (fm_I y :: fm_I x :: st) := by
  intro C hL hz H locs ls hP hS hH hl
  obtain ⟨hx, hb, -⟩ := id C
  exact lv_icmp_ge hx hb hd ht (fun q => absurd ((fm_le ry rx).mp q) (by omega)) (fun q => k C hL hz H locs ls hP hS hH hl)
theorem nw_ist1 {o0 o : Option Value} {z : Int} {t : List (Option Value)} (hc : fm_c1 o0 = true) (hd : decode M.1 pc = .ok (.istore_n 1, 1)) (k : nw_W l D ct Γ M a0 Q n cells slots G (pc + 1) (o0 :: some (fm_I z) :: t) st) : nw_W l D ct Γ M a0 Q n cells slots G pc (o0 :: o :: t) (fm_I z :: st) := by
  intro C hL hz H locs ls hP hS hH hl
  obtain ⟨hx, hb, -⟩ := id C
  refine lv_istore_n (i := 1) hx hb hd rfl hl.has (by simp) rfl (fun ls2 hl2 => ?_)
  have h9 : ∀ (j : Nat) (ow : Option Value), j + 1 = 1 → (o0 :: o :: t)[j]? = some ow → fm_c1 ow = true := by
    intro j ow hj ho
    have hj9 : j = 0 := by omega
    subst hj9
    rw [← Option.some.inj ho]
    exact hc
  exact k C hL hz H locs ls2 hP hS hH (fm_L.put (L := o0 :: o :: t) (i := 1) (by simp) h9 hl2)
theorem nw_inc1 {o0 : Option Value} {x z : Int} {t : List (Option Value)} (hc : fm_c1 o0 = true) (hd : decode M.1 pc = .ok (.iinc 1 z, 3)) (k : nw_W l D ct Γ M a0 Q n cells slots G (pc + 3) (o0 :: some (fm_I (x + z)) :: t) st) : nw_W l D ct Γ M a0 Q n cells slots G pc (o0 :: some (fm_I x) :: t) st := by
  intro C hL hz H locs ls hP hS hH hl
  obtain ⟨hx, hb, -⟩ := id C
  obtain ⟨q, hq⟩ := List.getElem?_of_mem (fm_al_mem (L := o0 :: some (fm_I x) :: t) (q := (1, fm_I x)).mpr rfl)
  refine lv_iinc (v := Int32.ofInt (x + z)) hx hb hd hl.has (k := q) hq (Int32.ofInt_add x z).symm (by simp) rfl (fun ls2 hl2 => ?_)
  have h9 : ∀ (j : Nat) (ow : Option Value), j + 1 = 1 → (o0 :: some (fm_I x) :: t)[j]? = some ow → fm_c1 ow = true := by
    intro j ow hj ho
    have hj9 : j = 0 := by omega
    subst hj9
    rw [← Option.some.inj ho]
    exact hc
  exact k C hL hz H locs ls2 hP hS hH (fm_L.put (L := o0 :: some (fm_I x) :: t) (i := 1) (by simp) h9 hl2)
theorem nw_obj {idx a : Nat} (hd : decode M.1 pc = .ok (.invokespecial idx, 3)) (w1 : Cond.methodLink M.2.1 idx objectInit ∈ fm_T) (w2 : Cond.instanceMethod objectInit ∈ fm_T) (w3 : Cond.code objectInit ⟨#[0xb1]⟩ 1 none ∈ fm_T) (h1 : 1 ≤ M.2.2.1.frames) (h2 : (st.map fun v => v.category).sum + 12 ≤ M.2.2.1.locals) (k : nw_W l D ct Γ M a0 Q n cells slots G (pc + 3) L st) : nw_W l D ct Γ M a0 Q n cells slots G pc L (.ref a :: st) := by
  intro C hL hz H locs ls hP hS hH hl
  obtain ⟨hx, hb, hml, hown, hts, hK, hN, hA⟩ := id C
  refine W.objInit hx hb hown (hts _ w1) (hts _ w2) (hts _ w3) rfl (by rw [hml, ← hL]; exact hl.1) rfl hd h1 (by simpa [F0, JFrame.monitorRoom] using h2) (k C hL hz H locs ls hP hS hH hl)
theorem nw_new {idx ci N : Nat} {C : String} {T : u_T} {fs : List Value} (ty : Nat → FieldType) (n' c' s' : Nat) (hn' : n' = n + 1) (hc' : c' = cells + 1) (hs' : s' = slots + N) (hd : decode M.1 pc = .ok (.new idx, 3)) (w1 : Cond.classLink M.2.1 idx C ∈ fm_T) (w2 : Cond.instantiable C N ∈ fm_T) (w3 : Cond.initialized C ∈ fm_T) (us : ∀ w ∈ u_ws C T N, w ∈ fm_T) (hty : ∀ k, k < N → parseFieldDescriptor (T k).2.2.1 = some (ty k)) (hc : vwCl[ci]? = some (C, T, N)) (hfs : ∀ j, j < N → defaultValue (ty j) = vp_V fs j) (h1 : c' ≤ M.2.2.1.cells) (h2 : s' ≤ M.2.2.1.slots)
    (k : nw_W l D ct Γ M a0 Q n' c' s' (nw_up G n (.inr (ci, fs))) (pc + 3) L (.ref (a0 + n) :: st)) : nw_W l D ct Γ M a0 Q n cells slots G pc L st := by
  subst hn' hc' hs'
  intro C0 hL hz H locs ls hP hS hH hl
  obtain ⟨hx, hb, hml, hown, hts, hK, hN, hA⟩ := id C0
  refine va_new hx hb hts us ty hty hown (hts _ w1) (hts _ w2) (hts _ w3) hK hP nw_D hS (fun q hq => Nat.le_trans hA hq) hc hfs h1 h2 hd (fun q H1 hP1 hD1 hS1 => nw_size (fun hz1 => ?_))
  obtain ⟨rfl, hs1⟩ := nw_q hP1 hD1 (by omega)
  rw [nw_app] at hP1
  exact k C0 hL (by omega) H1 locs ls hP1 hS1 hs1 hl
theorem nw_ct0 {s : State} {cA : ClassId} (hK : va_K D vwCl (fm_tys ct ++ [(cA, .int)]) s) : cA = ct 0 := by
  have h1 := (hK.2 0 (ct 0, .int) rfl).2
  have h2 := (hK.2 3 (cA, .int) rfl).2
  exact Option.some.inj (h2.symm.trans h1)
theorem nw_ct1 {s : State} {cA : ClassId} (hK : va_K D vwCl (fm_tys ct ++ [(cA, .object RX3)]) s) : cA = ct 1 := by
  obtain ⟨_, _, -, -, -, h1⟩ := (hK.2 1 (ct 1, .object RX3) rfl).2
  obtain ⟨_, _, -, -, -, h2⟩ := (hK.2 3 (cA, .object RX3) rfl).2
  exact Option.some.inj (h2.symm.trans h1)
theorem nw_newI {z : Int} {N : Nat} (n' c' s' : Nat) (hn' : n' = n + 1) (hc' : c' = cells + 1) (hs' : s' = slots + N) (hz : z = (N : Int)) (hN : N < 100000) (hd : decode M.1 pc = .ok (.newarray .int, 2)) (w1 : Cond.arrayClass .int ∈ fm_T) (h1 : c' ≤ M.2.2.1.cells) (h2 : s' ≤ M.2.2.1.slots)
    (k : nw_W l D ct Γ M a0 Q n' c' s' (nw_up G n (.inl (ct 0, N, .inl (fun _ => Int32.ofInt 0)))) (pc + 2) L (.ref (a0 + n) :: st)) : nw_W l D ct Γ M a0 Q n cells slots G pc L (fm_I z :: st) := by
  subst hn' hc' hs' hz
  intro C0 hL hz H locs ls hP hS hH hl
  obtain ⟨hx, hb, hml, hown, hts, hK, hN2, hA⟩ := id C0
  refine va_newa (atype := .int) (ty := .int) (a0 := (N, .inl (fun _ => Int32.ofInt 0))) (N' := N) hx hb (hts _ w1) rfl hK hP nw_D hS (fun q hq => Nat.le_trans hA hq) (fun cA => ?_) ?_ (by rw [fm_clamp (by omega) (by omega)]; omega) ?_ h1 h2 hd (fun q cA H1 hK1 hP1 hD1 hS1 => nw_size (fun hz1 => ?_))
  · show arrV cA N (fun _ => .int (Int32.ofInt 0)) = arrV cA N (fun _ => .int 0)
    rw [← fm_z0]
  · rw [fm_z0, fm_lt ⟨by omega, by omega⟩ ⟨by decide, by decide⟩]
    omega
  · show N * 4 ≤ 536870912
    omega
  · obtain ⟨rfl, hs1⟩ := nw_q hP1 hD1 (by omega)
    rw [nw_app, nw_ct0 hK1] at hP1
    exact k C0 hL (by omega) H1 locs ls hP1 hS1 hs1 hl
theorem nw_newR {z : Int} {N idx : Nat} (n' c' s' : Nat) (hn' : n' = n + 1) (hc' : c' = cells + 1) (hs' : s' = slots + N) (hz : z = (N : Int)) (hN : N < 100000) (hd : decode M.1 pc = .ok (.anewarray idx, 3)) (w1 : Cond.classLink M.2.1 idx RX3 ∈ fm_T) (h1 : c' ≤ M.2.2.1.cells) (h2 : s' ≤ M.2.2.1.slots)
    (k : nw_W l D ct Γ M a0 Q n' c' s' (nw_up G n (.inl (ct 1, N, .inr (.inr (.inr (.inr (fun _ => none))))))) (pc + 3) L (.ref (a0 + n) :: st)) : nw_W l D ct Γ M a0 Q n cells slots G pc L (fm_I z :: st) := by
  subst hn' hc' hs' hz
  intro C0 hL hz H locs ls hP hS hH hl
  obtain ⟨hx, hb, hml, hown, hts, hK, hN2, hA⟩ := id C0
  refine va_newq (N' := N) hx hb hown (hts _ w1) hN2.1 hK hP nw_D hS (fun q hq => Nat.le_trans hA hq) ?_ (by rw [fm_clamp (by omega) (by omega)]; omega) (by omega) h1 h2 hd (fun q cA H1 hK1 hP1 hD1 hS1 => nw_size (fun hz1 => ?_))
  · rw [fm_z0, fm_lt ⟨by omega, by omega⟩ ⟨by decide, by decide⟩]
    omega
  · obtain ⟨rfl, hs1⟩ := nw_q hP1 hD1 (by omega)
    rw [nw_app, nw_ct1 hK1] at hP1
    exact k C0 hL (by omega) H1 locs ls hP1 hS1 hs1 hl
/-- a final field of the own object that is a reference -/
def nw_Wf (own : String) (ci j : Nat) : Prop := ∃ (C : String) (T : u_T) (N : Nat) (ty : FieldType), vwCl[ci]? = some (C, T, N) ∧ (T j).2.2.2 = true ∧ (T j).1 = own ∧ parseFieldDescriptor (T j).2.2.1 = some ty ∧ ∀ a : Nat, narrow ty (.ref a) = .ref a ∧ fits ty (.ref a) = true
theorem nw_putF {idx ci j i a : Nat} {fs : List Value} (hI : nw_I Γ) (hd : decode M.1 pc = .ok (.putfield idx, 3)) (hF : fm_Fd M.2.1 ci j idx) (hw : nw_Wf M.2.1 ci j) (hi : i < n) (hG : G i = .inr (ci, fs)) (hj : j < fs.length) (k : nw_W l D ct Γ M a0 Q n cells slots (nw_up G i (.inr (ci, fs.set j (.ref a)))) (pc + 3) L st) : nw_W l D ct Γ M a0 Q n cells slots G pc L (.ref a :: .ref (a0 + i) :: st) := by
  intro C0 hL hz H locs ls hP hS hH hl
  obtain ⟨hx, hb, hml, hown, hts, hK, hN, hA⟩ := id C0
  obtain ⟨Cn, T, N, ty, h1, h2, h3, h4, h5, h6⟩ := hF
  obtain ⟨C2, T2, N2, ty2, g1, g2, g3, g4, g5⟩ := hw
  have e9 : (Cn, T, N) = (C2, T2, N2) := Option.some.inj (h1.symm.trans g1)
  cases e9
  have he := nw_at (a0 := a0) (G := G) hi
  rw [hG] at he
  refine va_putF (v := .ref a) (ty := ty2) hx hb hts h3 ty h5 h6 hown hK hP nw_D hS i he h1 j h2 (hts _ h4) (fun _ h9 => h9) g2 hI.2.2 g3 g4 (g5 a).1 (g5 a).2 hj hd (fun H1 locs1 hP1 hD1 hS1 => nw_size (fun hz1 => ?_))
  rw [nw_set hi] at hP1
  refine k C0 hL hz H1 locs1 ls hP1 hS1 ?_ hl
  have h9 : n - 1 < n := by omega
  have := (hP1 (n - 1) _ (nw_at h9)).lt
  simp only at this
  omega
theorem nw_getR {idx ci j i a : Nat} {fs : List Value} (hd : decode M.1 pc = .ok (.getfield idx, 3)) (hF : fm_Fd M.2.1 ci j idx) (hi : i < n) (hG : G i = .inr (ci, fs)) (hj : fs[j]? = some (.ref a)) (k : nw_W l D ct Γ M a0 Q n cells slots G (pc + 3) L (.ref a :: st)) : nw_W l D ct Γ M a0 Q n cells slots G pc L (.ref (a0 + i) :: st) := by
  intro C0 hL hz H locs ls hP hS hH hl
  obtain ⟨hx, hb, hml, hown, hts, hK, hN, hA⟩ := id C0
  obtain ⟨Cn, T, N, ty, h1, h2, h3, h4, h5, h6⟩ := hF
  have he := nw_at (a0 := a0) (G := G) hi
  rw [hG] at he
  exact va_get hx hb hts h3 hown hK hP i he h1 j h2 (hts _ h4) (fun _ h9 => h9) hj hd (k C0 hL hz H locs ls hP hS hH hl)
theorem nw_iast {i N : Nat} {z x : Int} {f : Nat → Int32} (hd : decode M.1 pc = .ok (.iastore, 1)) (hi : i < n) (hG : G i = .inl (ct 0, N, .inl f)) (h0 : 0 ≤ z) (h1 : z < (N : Int)) (hN : N < 2 ^ 31) (k : nw_W l D ct Γ M a0 Q n cells slots (nw_up G i (.inl (ct 0, N, .inl (upd f z.toNat (Int32.ofInt x))))) (pc + 1) L st) : nw_W l D ct Γ M a0 Q n cells slots G pc L (fm_I x :: fm_I z :: .ref (a0 + i) :: st) := by
  intro C0 hL hz H locs ls hP hS hH hl
  obtain ⟨hx, hb, hml, hown, hts, hK, hN2, hA⟩ := id C0
  have he := nw_at (a0 := a0) (G := G) hi
  rw [hG] at he
  refine va_iast hx hb hK hP nw_D hS i 0 he rfl (fm_vin hN h0 h1) hd (fun H1 locs1 hP1 hD1 hS1 => nw_size (fun hz1 => ?_))
  rw [fm_clamp h0 (by omega), nw_set hi] at hP1
  refine k C0 hL hz H1 locs1 ls hP1 hS1 ?_ hl
  have h9 : n - 1 < n := by omega
  have := (hP1 (n - 1) _ (nw_at h9)).lt
  simp only at this
  omega
theorem nw_aast {i v N : Nat} {z : Int} {f : Nat → Option Nat} {vs : List Value} (hd : decode M.1 pc = .ok (.aastore, 1)) (hi : i < n) (hv : v < n) (hG : G i = .inl (ct 1, N, .inr (.inr (.inr (.inr f))))) (hV : G v = .inr (3, vs)) (h0 : 0 ≤ z) (h1 : z < (N : Int)) (hN : N < 2 ^ 31) (k : nw_W l D ct Γ M a0 Q n cells slots (nw_up G i (.inl (ct 1, N, .inr (.inr (.inr (.inr (va_up f z.toNat (some (a0 + v)))))))) ) (pc + 1) L st) : nw_W l D ct Γ M a0 Q n cells slots G pc L (.ref (a0 + v) :: fm_I z :: .ref (a0 + i) :: st) := by
  intro C0 hL hz H locs ls hP hS hH hl
  obtain ⟨hx, hb, hml, hown, hts, hK, hN2, hA⟩ := id C0
  have he := nw_at (a0 := a0) (G := G) hi
  rw [hG] at he
  have he2 := nw_at (a0 := a0) (G := G) hv
  rw [hV] at he2
  refine va_astq (r := (RX3, TX3, 4)) hx hb hK hP nw_D hS i 1 v 3 he rfl he2 rfl (fm_vin hN h0 h1) hd (fun H1 locs1 hP1 hD1 hS1 => nw_size (fun hz1 => ?_))
  rw [fm_clamp h0 (by omega), nw_set hi] at hP1
  refine k C0 hL hz H1 locs1 ls hP1 hS1 ?_ hl
  have h9 : n - 1 < n := by omega
  have := (hP1 (n - 1) _ (nw_at h9)).lt
  simp only at this
  omega
theorem nw_vret {Φ : Heap → Prop} (hI : nw_I Γ) (hM : M.2.2.2.2 = none) (hd : decode M.1 pc = .ok (.return_, 1)) (h : ∀ H : Heap, va_P D vwCl (nw_ws a0 n G) H → Φ H) : nw_W l D ct Γ M a0 (MQ Γ.2.2.2.2.2.1 (nw_Qc a0 n Φ) Γ.2.2.2.2.1 Γ.2.2.1 cells slots (fun q => a0 ≤ q)) n cells slots G pc L [] := by
  intro C0 hL hz H locs ls hP hS hH hl
  obtain ⟨hx, hb, hml, hown, hts, hK, hN2, hA⟩ := id C0
  exact W.vret hx hb hI.1 (fun t ht hW => ⟨rfl, by rw [ht]; exact hH, by rw [ht]; exact h H hP, fun q hq => by rw [ht]; exact hS.2.1 q (by omega) (by omega)⟩) hS.2.2 hd hI.2.1
theorem nw_start {y : MethodName} {cc : ByteArray} {own : String} {rm : Room} {nL nF : Nat} {av : List Value} {e0 : va_E} {Φ : Heap → Prop} (hy : plainName y.cls = true) (hown : y.cls = own) (hnm : y.name = "<init>") (hlen : (lg_sl av).length ≤ nL) (L0 : List (Option Value)) (hL0 : fm_in av nL = L0)
    (k : ∀ Γ : fm_G, nw_I Γ → nw_W l D ct Γ (cc, own, rm, nL, none) a0 (MQ Γ.2.2.2.2.2.1 (nw_Qc a0 nF Φ) Γ.2.2.2.2.1 Γ.2.2.1 rm.cells rm.slots (fun q => a0 ≤ q)) 1 0 0 (fun _ => e0) 0 L0 []) : nw_Met l D ct y cc nL rm av a0 e0 nF Φ := by
  refine Met.ofW (cc := cc) (maxL := nL) (ret := none) hy rfl ?_
  intro p e s m args below meth c s₁ B hml hv
  obtain ⟨rfl, hsz, hP, hK, hN⟩ := hv
  have hts := atoms_spec (ws := Cond.code y cc nL none :: fm_T) B.pre
  have hown2 : s.vm.findClass own = some m.cls := by rw [← hown]; exact findClass_of_methodNamed B.named
  have hl := lv_entry av (n := nL) hlen
  rw [lg_entry_eq]
  refine k (p, e, s, m, av.toArray, below, meth, c) ⟨B.returns, B.notSynchronized, ?_⟩ ⟨B.exec, B.bytes, hml, hown2, fun w hw => hts w (List.mem_cons_of_mem _ hw), hK, hN, by show a0 ≤ s.heap.size; omega⟩ (by rw [← hL0, fm_in_len]) hsz s.heap [] _ (nw_P (fun i hi => ?_)) va_S.rf hsz ⟨by rw [← hL0, fm_in_len]; exact hl.1, hl.2.1, fun i v hv => ?_⟩
  · have := (name_of_methodNamed B.named B.method).1
    exact this.trans hnm
  · have : i = 0 := by omega
    subst this
    exact hP
  · subst hL0
    have := fm_in_at av nL 0 i v hv
    rw [Nat.zero_add] at this
    exact hl.2.2 _ this
end NW
