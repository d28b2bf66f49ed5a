/-! the law: the skeleton's head, the judgement over both worlds, its rows -/
def R_law : String := "FilmWholeLaw"
def lw_P (b : Addr) (xs : List Int32) (args : Array Value) (s : State) : Prop := args = #[.ref b] ∧ s.IntsAt b xs ∧ xs.length ≤ 2560 ∧ (Jvm.Cond.and given_1 narrow_1).before args s = true
def lw_Q (_ : Array Value) (s : State) (o : Outcome) (t : State) : Prop := o = .returned (some (.int 1)) ∧ Framed s o t [] 600000 7302250
def lw_Z (below : List Frame) (a : Array Value) (s : State) : State → Prop := fun t => ∃ o, t.status = .running ∧ Ended t below o ∧ lw_Q a s o t
/-- the law's own end, with 1 on the stack, nothing written that was there before, its room as the claim has it -/
theorem lw_ret {p : Program} {l : Launch} {e : Env} {s : State} {m : MethodId} {below : List Frame} {meth : Method} {c : Code} {b : Nat} (hx : p.tables.exec = Jvm.exec) (hb : c.code = code) (hr : meth.sig.returnType = ret) (hlocks : meth.locks = false) {pc : Nat} {H : Heap} {ls : Array Slot} (hdg : decode code pc = .ok (.ireturn, 1)) : W p l e room_1 s m #[Value.ref b] below meth c H [] 600000 7302250 (lw_Z below #[Value.ref b] s) (F0 m pc ls [.int 1]) := by
  intro T hT X
  obtain ⟨fs, hret, hrun, hended, hW, hframe⟩ := X.leave (v := some (.int 1)) (hlocks := hlocks) (fun h => by rw [hr] at h; cases h)
  have hmeth' : T.vm.method? m = some meth := X.method'
  refine ⟨T.setFrames fs, ?_, .returned (some (.int 1)), hrun, hended, rfl, ⟨_, rfl⟩, hW, hframe⟩
  jvm_step X.here [X.here.top, hx, hb, hdg, hmeth', hr, ret, narrow_b1]
  (try refine ⟨rfl, ?_⟩); (try refine ⟨rfl, ?_⟩)
  first | (intro acts; rw [hret _ acts rfl rfl rfl]) | rw [hret _ _ rfl rfl rfl]
  exact Steps.refl _
/-- what holds at the law's entry: the machine, the code, the tables' words (any of lw_tbl by 'hts w (by decide +kernel)'), the script of L ints xs at the cell b, what the Statement gives of the start (any of its parts by flat_of_before) -/
def lw_At (p : Program) (s : State) (m : MethodId) (meth : Method) (c : Code) (b L : Nat) (xs : Nat → Int32) : Prop :=
  p.tables.exec = Jvm.exec ∧ c.code = code ∧ meth.sig.returnType = ret ∧ c.maxLocals = 4 ∧ s.vm.findClass R_law = some m.cls ∧ (∀ w ∈ lw_tbl, w.before #[Value.ref b] s = true) ∧ va_X b L xs s s.heap ∧ b < s.heap.size ∧ meth.locks = false ∧ (Jvm.Cond.and given_1 narrow_1).before #[Value.ref b] s = true
def la1 (n : Nat) : Nat → Nat := fun k => n + nw_off k
def la2 (n : Nat) : Nat → Nat := fun k => n + 144 + k
def lx (xs : Nat → Int32) (z : Int) : Int := (xs z.toNat).toInt
def lw_C (D : va_G) (ct : Nat → ClassId) (Γ : fm_G) (b N : Nat) (xs : Nat → Int32) : Prop :=
  Γ.1.tables.exec = Jvm.exec ∧ Γ.2.2.2.2.2.2.2.code = cL_law ∧ Γ.2.2.2.2.2.2.2.maxLocals = 4 ∧ Γ.2.2.1.vm.findClass RL = some Γ.2.2.2.1.cls ∧ (∀ w ∈ fm_T, w.before Γ.2.2.2.2.1 Γ.2.2.1 = true) ∧ va_K D vwCl (fm_tys ct) Γ.2.2.1 ∧ va_X b N xs Γ.2.2.1 Γ.2.2.1.heap ∧ b < Γ.2.2.1.heap.size ∧ fm_S (fun q => Γ.2.2.1.heap.size ≤ q) Γ.2.2.1
def lw_V (l : Launch) (D : va_G) (ct : Nat → ClassId) (Γ : fm_G) (Q : State → Prop) (b N : Nat) (xs : Nat → Int32) (S T : fm_Sh) (ad ad2 : Nat → Nat) (σ τ : fm_Mem) (pc : Nat) (L : List (Option Value)) (st : List Value) : Prop :=
  lw_C D ct Γ b N xs → L.length = 4 → ∀ (H : Heap) (locs : List Loc) (ls : Array Slot), va_P D vwCl (fm_ws S ct ad σ) H → va_P D vwCl (fm_ws T ct ad2 τ) H → va_S (fun q => Γ.2.2.1.heap.size ≤ q) Γ.2.2.1.heap H locs → fm_L ls L →
    W Γ.1 l Γ.2.1 room_1 Γ.2.2.1 Γ.2.2.2.1 Γ.2.2.2.2.1 Γ.2.2.2.2.2.1 Γ.2.2.2.2.2.2.1 Γ.2.2.2.2.2.2.2 H locs 600000 7302250 Q (F0 Γ.2.2.2.1 pc ls st)
section LW
variable {l : Launch} {D : va_G} {ct : Nat → ClassId} {Γ : fm_G} {Q : State → Prop} {b N : Nat} {xs : Nat → Int32} {S T : fm_Sh} {ad ad2 : Nat → Nat} {σ τ : fm_Mem} {pc : Nat} {L : List (Option Value)} {st : List Value}
theorem lw_iconst {z : Int} (hd : decode cL_law pc = .ok (.iconst z, 1)) (k : lw_V l D ct Γ Q b N xs S T ad ad2 σ τ (pc + 1) L (fm_I z :: st)) : lw_V l D ct Γ Q b N xs S T ad ad2 σ τ pc L st := by
  intro C hL H locs ls hP hP2 hS hl
  obtain ⟨hx, hb, hml, hown, hts, hK, hX, hbl, hZ⟩ := id C
  exact lv_iconst hx hb hd rfl (k C hL H locs ls hP hP2 hS hl)
theorem lw_bipush {z : Int} (hv : (Int8.ofInt z).toInt32 = Int32.ofInt z) (hd : decode cL_law pc = .ok (.bipush z, 2)) (k : lw_V l D ct Γ Q b N xs S T ad ad2 σ τ (pc + 2) L (fm_I z :: st)) : lw_V l D ct Γ Q b N xs S T ad ad2 σ τ pc L st := by
  intro C hL H locs ls hP hP2 hS hl
  obtain ⟨hx, hb, hml, hown, hts, hK, hX, hbl, hZ⟩ := id C
  exact lv_bipush hx hb hd hv (k C hL H locs ls hP hP2 hS hl)
theorem lw_aload {i : Fin 4} {a : Nat} (h : L[i.val]? = some (some (.ref a))) (hd : decode cL_law pc = .ok (.aload_n i, 1)) (k : lw_V l D ct Γ Q b N xs S T ad ad2 σ τ (pc + 1) L (.ref a :: st)) : lw_V l D ct Γ Q b N xs S T ad ad2 σ τ pc L st := by
  intro C hL H locs ls hP hP2 hS hl
  obtain ⟨hx, hb, hml, hown, hts, hK, hX, hbl, hZ⟩ := id C
  exact lv_aload_n hx hb hd rfl (hl.2.2 i.val _ h) (k C hL H locs ls hP hP2 hS hl)
theorem lw_iload {i : Fin 4} {z : Int} (h : L[i.val]? = some (some (fm_I z))) (hd : decode cL_law pc = .ok (.iload_n i, 1)) (k : lw_V l D ct Γ Q b N xs S T ad ad2 σ τ (pc + 1) L (fm_I z :: st)) : lw_V l D ct Γ Q b N xs S T ad ad2 σ τ pc L st := by
  intro C hL H locs ls hP hP2 hS hl
  obtain ⟨hx, hb, hml, hown, hts, hK, hX, hbl, hZ⟩ := id C
  exact lv_iload_n hx hb hd rfl (hl.2.2 i.val _ h) (k C hL H locs ls hP hP2 hS hl)
theorem lw_iadd {x y : Int} (hd : decode cL_law pc = .ok (.iadd, 1)) (k : lw_V l D ct Γ Q b N xs S T ad ad2 σ τ (pc + 1) L (fm_I (x + y) :: st)) : lw_V l D ct Γ Q b N xs S T ad ad2 σ τ pc L (fm_I y :: fm_I x :: st) := by
  intro C hL H locs ls hP hP2 hS hl
  obtain ⟨hx, hb, hml, hown, hts, hK, hX, hbl, hZ⟩ := id C
  have k2 := k C hL H locs ls hP hP2 hS hl
  rw [fm_I, Int32.ofInt_add] at k2
  exact lv_iadd hx hb hd k2
theorem lw_isub {x y : Int} (hd : decode cL_law pc = .ok (.isub, 1)) (k : lw_V l D ct Γ Q b N xs S T ad ad2 σ τ (pc + 1) L (fm_I (x - y) :: st)) : lw_V l D ct Γ Q b N xs S T ad ad2 σ τ pc L (fm_I y :: fm_I x :: st) := by
  intro C hL H locs ls hP hP2 hS hl
  obtain ⟨hx, hb, hml, hown, hts, hK, hX, hbl, hZ⟩ := id C
  have k2 := k C hL H locs ls hP hP2 hS hl
  rw [fm_I, Int32.ofInt_sub] at k2
  exact lv_isub hx hb hd k2
theorem lw_iand {x y : Int} (z : Int) (hz : Int32.ofInt x &&& Int32.ofInt y = Int32.ofInt z) (hd : decode cL_law pc = .ok (.iand, 1)) (k : lw_V l D ct Γ Q b N xs S T ad ad2 σ τ (pc + 1) L (fm_I z :: st)) : lw_V l D ct Γ Q b N xs S T ad ad2 σ τ pc L (fm_I y :: fm_I x :: st) := by
  intro C hL H locs ls hP hP2 hS hl
  obtain ⟨hx, hb, hml, hown, hts, hK, hX, hbl, hZ⟩ := id C
  have k2 := k C hL H locs ls hP hP2 hS hl
  rw [fm_I, ← hz] at k2
  exact lv_iand hx hb hd k2
theorem lw_i2l {x : Int} (hd : decode cL_law pc = .ok (.i2l, 1)) (k : lw_V l D ct Γ Q b N xs S T ad ad2 σ τ (pc + 1) L (.long (Int32.ofInt x).toInt64 :: st)) : lw_V l D ct Γ Q b N xs S T ad ad2 σ τ pc L (fm_I x :: st) := by
  intro C hL H locs ls hP hP2 hS hl
  obtain ⟨hx, hb, hml, hown, hts, hK, hX, hbl, hZ⟩ := id C
  exact lv_i2l hx hb hd rfl (k C hL H locs ls hP hP2 hS hl)
theorem lw_land {x y : Int64} (hd : decode cL_law pc = .ok (.land, 1)) (k : lw_V l D ct Γ Q b N xs S T ad ad2 σ τ (pc + 1) L (.long (x &&& y) :: st)) : lw_V l D ct Γ Q b N xs S T ad ad2 σ τ pc L (.long y :: .long x :: st) := by
  intro C hL H locs ls hP hP2 hS hl
  obtain ⟨hx, hb, hml, hown, hts, hK, hX, hbl, hZ⟩ := id C
  exact lv_land hx hb hd (k C hL H locs ls hP hP2 hS hl)
theorem lw_lor {x y : Int64} (hd : decode cL_law pc = .ok (.lor, 1)) (k : lw_V l D ct Γ Q b N xs S T ad ad2 σ τ (pc + 1) L (.long (x ||| y) :: st)) : lw_V l D ct Γ Q b N xs S T ad ad2 σ τ pc L (.long y :: .long x :: st) := by
  intro C hL H locs ls hP hP2 hS hl
  obtain ⟨hx, hb, hml, hown, hts, hK, hX, hbl, hZ⟩ := id C
  exact lv_lor hx hb hd (k C hL H locs ls hP hP2 hS hl)
theorem lw_lshl {x : Int64} {y : Int} (hd : decode cL_law pc = .ok (.lshl, 1)) (k : lw_V l D ct Γ Q b N xs S T ad ad2 σ τ (pc + 1) L (.long (x <<< ((Int32.ofInt y).toInt64 &&& 63)) :: st)) : lw_V l D ct Γ Q b N xs S T ad ad2 σ τ pc L (fm_I y :: .long x :: st) := by
  intro C hL H locs ls hP hP2 hS hl
  obtain ⟨hx, hb, hml, hown, hts, hK, hX, hbl, hZ⟩ := id C
  exact lv_lshl hx hb hd rfl (k C hL H locs ls hP hP2 hS hl)
theorem lw_ldc2 {v : Int64} {idx : Nat} (hm : Cond.constantLong RL idx v ∈ fm_T) (hd : decode cL_law pc = .ok (.ldc2_w idx, 3)) (k : lw_V l D ct Γ Q b N xs S T ad ad2 σ τ (pc + 3) L (.long v :: st)) : lw_V l D ct Γ Q b N xs S T ad ad2 σ τ pc L st := by
  intro C hL H locs ls hP hP2 hS hl
  obtain ⟨hx, hb, hml, hown, hts, hK, hX, hbl, hZ⟩ := id C
  exact lv_ldc2 hx hb hown (hts _ hm) hd (k C hL H locs ls hP hP2 hS hl)
theorem lw_sld {z : Int} (h0 : 0 ≤ z) (h1 : z < (N : Int)) (hN : N ≤ 2560) (hd : decode cL_law pc = .ok (.iaload, 1)) (k : lw_V l D ct Γ Q b N xs S T ad ad2 σ τ (pc + 1) L (fm_I (lx xs z) :: st)) : lw_V l D ct Γ Q b N xs S T ad ad2 σ τ pc L (fm_I z :: .ref b :: st) := by
  intro C hL H locs ls hP hP2 hS hl
  obtain ⟨hx, hb, hml, hown, hts, hK, hX, hbl, hZ⟩ := id C
  have k2 := k C hL H locs ls hP hP2 hS hl
  refine va_sld hx hb hX hbl (Nat.not_le.mpr hbl) hS (fm_vin (by omega) h0 h1) hd ?_
  rw [fm_clamp h0 (by omega), fm_I_of]
  exact k2
theorem lw_slen  (hd : decode cL_law pc = .ok (.arraylength, 1)) (k : lw_V l D ct Γ Q b N xs S T ad ad2 σ τ (pc + 1) L (fm_I (N : Int) :: st)) : lw_V l D ct Γ Q b N xs S T ad ad2 σ τ pc L (.ref b :: st) := by
  intro C hL H locs ls hP hP2 hS hl
  obtain ⟨hx, hb, hml, hown, hts, hK, hX, hbl, hZ⟩ := id C
  have k2 := k C hL H locs ls hP hP2 hS hl
  refine va_slen hx hb hX hbl (Nat.not_le.mpr hbl) hS hd ?_
  exact k2
theorem lw_goto {off : Int} (tgt : Nat) (hd : decode cL_law pc = .ok (.goto off, 3)) (ht : (pc : Int) + off = (tgt : Int)) (k : lw_V l D ct Γ Q b N xs S T ad ad2 σ τ tgt L st) : lw_V l D ct Γ Q b N xs S T ad ad2 σ τ pc L st := by
  intro C hL H locs ls hP hP2 hS hl
  obtain ⟨hx, hb, hml, hown, hts, hK, hX, hbl, hZ⟩ := id C
  exact lv_goto hx hb hd ht (k C hL H locs ls hP hP2 hS hl)
theorem lw_eq {x y off : Int} (tgt : Nat) (h : x = y) (hd : decode cL_law pc = .ok (.if_icmp .eq off, 3)) (ht : (pc : Int) + off = (tgt : Int)) (k : lw_V l D ct Γ Q b N xs S T ad ad2 σ τ tgt L st) : lw_V l D ct Γ Q b N xs S T ad ad2 σ τ pc L (fm_I y :: fm_I x :: st) := by
  intro C hL H locs ls hP hP2 hS hl
  obtain ⟨hx, hb, hml, hown, hts, hK, hX, hbl, hZ⟩ := id C
  exact lv_icmp_eq hx hb hd ht (fun q => (k C hL H locs ls hP hP2 hS hl)) (fun q => absurd (by rw [h]) q)
theorem lw_gt {x y off : Int} (tgt : Nat) (rx : fm_R x) (ry : fm_R y) (hd : decode cL_law pc = .ok (.if_icmp .gt off, 3)) (ht : (pc : Int) + off = (tgt : Int)) (kt : y < x → lw_V l D ct Γ Q b N xs S T ad ad2 σ τ tgt L st) (kf : ¬ y < x → lw_V l D ct Γ Q b N xs S T ad ad2 σ τ (pc + 3) L st) : lw_V l D ct Γ Q b N xs S T ad ad2 σ τ pc L (fm_I y :: fm_I x :: st) := by
  intro C hL H locs ls hP hP2 hS hl
  obtain ⟨hx, hb, hml, hown, hts, hK, hX, hbl, hZ⟩ := id C
  exact lv_icmp_gt hx hb hd ht (fun q => kt ((fm_lt ry rx).mp q) C hL H locs ls hP hP2 hS hl) (fun q => kf (fun r => q ((fm_lt ry rx).mpr r)) C hL H locs ls hP hP2 hS hl)
theorem lw_tabOut {dflt lo hi : Int} {offs : Array Int} {len : Nat} {x : Int} (rx : fm_R x) (tgt : Nat) (hd : decode cL_law pc = .ok (.tableswitch dflt lo hi offs, len)) (h : x < lo ∨ hi < x) (ht : (pc : Int) + dflt = (tgt : Int)) (k : lw_V l D ct Γ Q b N xs S T ad ad2 σ τ tgt L st) : lw_V l D ct Γ Q b N xs S T ad ad2 σ τ pc L (fm_I x :: st) := by
  intro C hL H locs ls hP hP2 hS hl
  obtain ⟨hx, hb, hml, hown, hts, hK, hX, hbl, hZ⟩ := id C
  exact lv_tableOut hx hb hd (by rw [fm_ofI rx.1 rx.2]; exact h) ht (k C hL H locs ls hP hP2 hS hl)
theorem lw_tabIn {dflt lo hi : Int} {offs : Array Int} {len : Nat} {off x : Int} (tgt : Nat) (hd : decode cL_law pc = .ok (.tableswitch dflt lo hi offs, len)) (rx : fm_R x) (h1 : ¬ x < lo) (h2 : ¬ hi < x) (ho : offs[(x - lo).toNat]? = some off) (ht : (pc : Int) + off = (tgt : Int)) (k : lw_V l D ct Γ Q b N xs S T ad ad2 σ τ tgt L st) : lw_V l D ct Γ Q b N xs S T ad ad2 σ τ pc L (fm_I x :: st) := by
  intro C hL H locs ls hP hP2 hS hl
  obtain ⟨hx, hb, hml, hown, hts, hK, hX, hbl, hZ⟩ := id C
  exact lv_tableIn hx hb hd (by rw [fm_ofI rx.1 rx.2]; exact h1) (by rw [fm_ofI rx.1 rx.2]; exact h2) (by rw [fm_ofI rx.1 rx.2]; exact ho) ht (k C hL H locs ls hP hP2 hS hl)
theorem lw_inc3 {o0 o1 o2 : Option Value} {x z : Int} {t : List (Option Value)} (hc : fm_c1 o2 = true) (hd : decode cL_law pc = .ok (.iinc 3 z, 3)) (k : lw_V l D ct Γ Q b N xs S T ad ad2 σ τ (pc + 3) (o0 :: o1 :: o2 :: some (fm_I (x + z)) :: t) st) : lw_V l D ct Γ Q b N xs S T ad ad2 σ τ pc (o0 :: o1 :: o2 :: some (fm_I x) :: t) st := by
  intro C hL H locs ls hP hP2 hS hl
  obtain ⟨hx, hb, hml, hown, hts, hK, hX, hbl, hZ⟩ := id C
  obtain ⟨q, hq⟩ := List.getElem?_of_mem (fm_al_mem (L := o0 :: o1 :: o2 :: some (fm_I x) :: t) (q := (3, fm_I x)).mpr rfl)
  refine lv_iinc (v := Int32.ofInt (x + z)) hx hb hd hl.has (k := q) hq (Int32.ofInt_add x z).symm (by simp) rfl (fun ls2 hl2 => ?_)
  have h9 : ∀ (j : Nat) (ow : Option Value), j + 1 = 3 → (o0 :: o1 :: o2 :: some (fm_I x) :: t)[j]? = some ow → fm_c1 ow = true := by
    intro j ow hj ho
    have hj9 : j = 2 := by omega
    subst hj9
    rw [← Option.some.inj ho]
    exact hc
  exact k C hL H locs ls2 hP hP2 hS (fm_L.put (L := o0 :: o1 :: o2 :: some (fm_I x) :: t) (i := 3) (by simp) h9 hl2)
theorem lw_swap (k : lw_V l D ct Γ Q b N xs T S ad2 ad τ σ pc L st) : lw_V l D ct Γ Q b N xs S T ad ad2 σ τ pc L st := fun C hL H locs ls hP hP2 hS hl => k C hL H locs ls hP2 hP hS hl
/-- behind a call: the other world stays -/
theorem lw_after {P2 : Option Value → fm_Mem → Prop} {a : Array Value} {rest st0 : List Value} (hdis : ∀ k, k < T.1 → ¬ fm_A S ad (ad2 k)) (hlow : ∀ k, k < S.1 → Γ.2.2.1.heap.size ≤ ad k) (C : lw_C D ct Γ b N xs) (hL : L.length = 4) {H : Heap} {locs : List Loc} {ls : Array Slot} (hP2 : va_P D vwCl (fm_ws T ct ad2 τ) H) (hS : va_S (fun q => Γ.2.2.1.heap.size ≤ q) Γ.2.2.1.heap H locs) (hl : fm_L ls L)
    (hr : va_Run Γ.1 l Γ.2.1 room_1 Γ.2.2.1 Γ.2.2.2.1 Γ.2.2.2.2.1 Γ.2.2.2.2.2.1 Γ.2.2.2.2.2.2.1 Γ.2.2.2.2.2.2.2 H locs 600000 7302250 0 0 (F0 Γ.2.2.2.1 pc ls st0) rest (fm_Qc S (l, D, ct, ad) P2 a) (fm_A S ad))
    (kk : ∀ (v : Option Value) (σ' : fm_Mem), P2 v σ' → lw_V l D ct Γ Q b N xs S T ad ad2 σ' τ (pc + 3) L (v.toList ++ rest)) : W Γ.1 l Γ.2.1 room_1 Γ.2.2.1 Γ.2.2.2.1 Γ.2.2.2.2.1 Γ.2.2.2.2.2.1 Γ.2.2.2.2.2.2.1 Γ.2.2.2.2.2.2.2 H locs 600000 7302250 Q (F0 Γ.2.2.2.1 pc ls st0) := by
  intro T0 hT X
  obtain ⟨v, st₀, t, T', L2, h0, X', hL2, e1, e2, ⟨v', σ', hv, hp, hPP, hz, hk⟩, stp⟩ := hr T0 hT X
  cases hv
  rw [h0] at hz hk
  have hlo : ∀ q, fm_A S ad q → Γ.2.2.1.heap.size ≤ q := fun q hq => by
    obtain ⟨k, h1, rfl⟩ := hq
    exact hlow k h1
  have hS' : va_S (fun q => Γ.2.2.1.heap.size ≤ q) Γ.2.2.1.heap T'.heap (locs ++ L2) := ⟨Nat.le_trans hS.1 (by rw [e1]; exact hz), fun q h1 h2 => by rw [e1, hk q (Nat.lt_of_lt_of_le h1 hS.1) (fun z => h2 (hlo q z))]; exact hS.2.1 q h1 h2, fun q hq => by
      rcases List.mem_append.mp hq with h | h
      · exact hS.2.2 q h
      · exact hlo _ (hL2 q h)⟩
  have hPo : va_P D vwCl (fm_ws T ct ad2 τ) T'.heap := hP2.kept (fun k q hq => by
    have hlt := (hP2 k q hq).lt
    obtain ⟨h1, rfl⟩ := fm_ws_some hq
    rw [e1]
    exact hk _ hlt (hdis k h1))
  obtain ⟨t2, a1, b1⟩ := kk v σ' hp C hL T'.heap (locs ++ L2) ls (by rw [e1]; exact hPP) hPo hS' hl T' rfl X'
  exact ⟨t2, stp t2 a1, b1⟩
theorem lw_good {ci idx maxL n : Nat} {y : MethodName} {bytes : ByteArray} {ret : Option FieldType} (hc : fm_CV RL idx ci y bytes maxL ret n) : GoodIn fm_T (wsV RL idx y.cls y (Cond.code y bytes maxL ret :: fm_T)) := fun w hw => fm_good w (by
  obtain ⟨⟨c1, c2, c3, c4, c5⟩, -⟩ := hc
  unfold wsV at hw
  simp only [List.cons_append, List.nil_append, List.mem_cons] at hw
  rcases hw with rfl | rfl | rfl | rfl | rfl | hw
  · exact c1
  · exact c2
  · exact c3
  · exact c4
  · exact c5
  · exact hw)
theorem lw_callV {P2 : Option Value → fm_Mem → Prop} {y : MethodName} {rm : Room} {b0 ci idx maxL n : Nat} {bytes : ByteArray} {ret : Option FieldType} {As rest : List Value} (hdis : ∀ k, k < T.1 → ¬ fm_A S ad (ad2 k)) (hlow : ∀ k, k < S.1 → Γ.2.2.1.heap.size ≤ ad k) (hD : va_D (fun _ => True) (fm_ws S ct ad (fun _ _ => 0))) (hd : decode cL_law pc = .ok (.invokevirtual idx, 3)) (hc : fm_CV RL idx ci y bytes maxL ret n) (hM : fm_Met S (l, D, ct, ad) y bytes maxL ret rm (.ref (ad b0) :: As) σ P2) (ho : fm_ob S b0 ci) (hrc : rm.cells = 0) (hrs : rm.slots = 0)
    (hR : rm.frames + 1 ≤ room_1.frames ∧ 8 + (maxL + 11) + rm.locals ≤ room_1.locals) (hn : As.length = n) (hst : st = As.reverse ++ .ref (ad b0) :: rest) (hW : (rest.map fun v => v.category).sum ≤ 8)
    (kk : ∀ (v : Option Value) (σ' : fm_Mem), P2 v σ' → lw_V l D ct Γ Q b N xs S T ad ad2 σ' τ (pc + 3) L (v.toList ++ rest)) : lw_V l D ct Γ Q b N xs S T ad ad2 σ τ pc L st := by
  intro C hL H locs ls hP hP2 hS hl
  obtain ⟨hx, hb, hml, hown, hts, hK, hX, hbl, hZ⟩ := id C
  subst hst
  have hG := lw_good hc
  obtain ⟨-, ⟨T9, N9, c6⟩, c7⟩ := hc
  have he := fm_ws_at (S := S) (ct := ct) (ad := ad) (σ := σ) ho.1
  rw [fm_e_ob ho] at he
  exact lw_after hdis hlow C hL hP2 hS hl (va_runV (As := As) (rest := rest) (b := ad b0) ⟨hx, hb, hml, hown, hts⟩ hM (cwV n hts hG rfl hrc hrs ⟨rfl, c7⟩ hR) ⟨fm_blind, va_recv hK hP c6 he, fun U hU hW => ⟨rfl, by rw [hU]; exact hP, va_K.moved hW.alike hK, hD⟩⟩ rfl hn (hl.1.trans hL) rfl (lv_room hW) hd ⟨Nat.le_of_ble_eq_true rfl, Nat.le_of_ble_eq_true rfl⟩) kk
theorem fm_blindS {S : fm_Sh} {ω : fm_O} {σ : fm_Mem} {av : List Value} : FrameBlind (va_Pc av (fun U => va_P ω.2.1 vwCl (fm_ws S ω.2.2.1 ω.2.2.2 σ) U.heap ∧ va_K ω.2.1 vwCl (fm_tys ω.2.2.1) U ∧ va_D (fun _ => True) (fm_ws S ω.2.2.1 ω.2.2.2 (fun _ _ => 0)) ∧ fm_S (fm_A S ω.2.2.2) U)) := fun a U g mk q => by
  obtain ⟨q0, qP, qK, qD, t, qZ, qT⟩ := q
  exact ⟨q0, qP, va_K.moved (u := U) (U := U.calling g mk a) (Vm.Alike.refl U.vm) qK, qD, t, va_Z.moved (u := U) (U := U.calling g mk a) (Vm.Alike.refl U.vm) qZ, va_T.moved (u := U) (U := U.calling g mk a) (Vm.Alike.refl U.vm) qT⟩
theorem lw_callZ {P2 : Option Value → fm_Mem → Prop} {y : MethodName} {rm : Room} {b0 ci idx maxL n : Nat} {bytes : ByteArray} {ret : Option FieldType} {As rest : List Value} (hdis : ∀ k, k < T.1 → ¬ fm_A S ad (ad2 k)) (hlow : ∀ k, k < S.1 → Γ.2.2.1.heap.size ≤ ad k) (hD : va_D (fun _ => True) (fm_ws S ct ad (fun _ _ => 0))) (hd : decode cL_law pc = .ok (.invokevirtual idx, 3)) (hc : fm_CV RL idx ci y bytes maxL ret n) (hM : fm_MetS S (l, D, ct, ad) y bytes maxL ret rm (.ref (ad b0) :: As) σ P2) (ho : fm_ob S b0 ci) (hrc : rm.cells = 0) (hrs : rm.slots = 0)
    (hR : rm.frames + 1 ≤ room_1.frames ∧ 8 + (maxL + 11) + rm.locals ≤ room_1.locals) (hn : As.length = n) (hst : st = As.reverse ++ .ref (ad b0) :: rest) (hW : (rest.map fun v => v.category).sum ≤ 8)
    (kk : ∀ (v : Option Value) (σ' : fm_Mem), P2 v σ' → lw_V l D ct Γ Q b N xs S T ad ad2 σ' τ (pc + 3) L (v.toList ++ rest)) : lw_V l D ct Γ Q b N xs S T ad ad2 σ τ pc L st := by
  intro C hL H locs ls hP hP2 hS hl
  obtain ⟨hx, hb, hml, hown, hts, hK, hX, hbl, hZ⟩ := id C
  subst hst
  have hG := lw_good hc
  obtain ⟨-, ⟨T9, N9, c6⟩, c7⟩ := hc
  have he := fm_ws_at (S := S) (ct := ct) (ad := ad) (σ := σ) ho.1
  rw [fm_e_ob ho] at he
  have hlo : ∀ q, fm_A S ad q → Γ.2.2.1.heap.size ≤ q := fun q hq => by
    obtain ⟨k, h1, rfl⟩ := hq
    exact hlow k h1
  obtain ⟨t0, z1, z2⟩ := hZ
  have z1 := (z1.kept (H1 := H) hS.2.1).narrow hlo
  have z2 := (z2.kept (H1 := H) hS.2.1).narrow hlo
  exact lw_after hdis hlow C hL hP2 hS hl (va_runV (As := As) (rest := rest) (b := ad b0) ⟨hx, hb, hml, hown, hts⟩ hM (cwV n hts hG rfl hrc hrs ⟨rfl, c7⟩ hR) ⟨fm_blindS, va_recv hK hP c6 he, fun U hU hW => ⟨rfl, by rw [hU]; exact hP, va_K.moved hW.alike hK, hD, t0, by rw [hU]; exact va_Z.moved hW.alike z1, by rw [hU]; exact va_T.moved hW.alike z2⟩⟩ rfl hn (hl.1.trans hL) rfl (lv_room hW) hd ⟨Nat.le_of_ble_eq_true rfl, Nat.le_of_ble_eq_true rfl⟩) kk
end LW
