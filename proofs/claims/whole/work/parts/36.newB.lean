/-! nw_: an array of rows; calls of constructors -/
theorem nw_outer (c : ClassId) (N h0 : Nat) : ∀ i : Nat, Jvm.Free.Multi.outerC c N h0 i = arrV c N (fun j => va_rf (if j < i then some (h0 + 1 + j) else none))
  | 0 => by
    show ({ cls := c, slots := Array.replicate N .null, vm := .none } : Cell) = _
    rw [arrV_new]
    refine congrArg (arrV c N) (funext fun j => ?_)
    simp [va_rf]
  | i + 1 => by
    show (Jvm.Free.Multi.outerC c N h0 i).setSlot i (.ref (h0 + 1 + i)) = _
    rw [nw_outer c N h0 i, arrV_store]
    refine congrArg (arrV c N) (funext fun j => ?_)
    by_cases e : j = i
    · subst e
      simp [updV, va_rf]
    · by_cases h : j < i
      · simp [updV, e, h, Nat.lt_succ_of_lt h]
      · simp [updV, e, h, show ¬ j < i + 1 by omega]
theorem nw_arr {c : ClassId} {N : Nat} {f g : Nat → Value} (h : ∀ j, j < N → f j = g j) : arrV c N f = arrV c N g := by
  unfold arrV
  congr 1
  congr 1
  funext j
  exact h j.val j.isLt
def nw_mn (ct : Nat → ClassId) (a0 : Nat) (G : Nat → va_E) (n N K : Nat) : Nat → va_E := fun i => if i < n then G i else if i = n then .inl (ct 2, N, .inr (.inr (.inr (.inr (fun j => some (a0 + (n + 1 + j))))))) else .inl (ct 0, K, .inl (fun _ => Int32.ofInt 0))
section NWB
variable {l : Launch} {D : va_G} {ct : Nat → ClassId} {Γ : fm_G} {M : fm_M} {a0 : Nat} {Q : State → Prop} {n cells slots : Nat} {G : Nat → va_E} {pc : Nat} {L : List (Option Value)} {st : List Value}
theorem nw_mna {z1 z2 : Int} {N K idx : Nat} (n' c' s' : Nat) (hn' : n' = n + 1 + N) (hc' : c' = cells + 1 + N) (hs' : s' = slots + N + N * K) (hz1 : z1 = (N : Int)) (hz2 : z2 = (K : Int)) (hN : N < 1000) (hKK : K < 1000) (hd : decode M.1 pc = .ok (.multianewarray idx 2, 4)) (w1 : Cond.classLink M.2.1 idx ("[" ++ (FieldType.array .int).toString) ∈ fm_T) (w2 : Cond.arrayClass .int ∈ fm_T) (h1 : c' ≤ M.2.2.1.cells) (h2 : s' ≤ M.2.2.1.slots)
    (k : nw_W l D ct Γ M a0 Q n' c' s' (nw_mn ct a0 G n N K) (pc + 4) L (.ref (a0 + n) :: st)) : nw_W l D ct Γ M a0 Q n cells slots G pc L (fm_I z2 :: fm_I z1 :: st) := by
  subst hn' hc' hs' hz1 hz2
  intro C0 hL hz H locs ls hP hS hH hl
  obtain ⟨hx, hb, hml, hown, hts, hK, hN2, hA⟩ := id C0
  intro T hT Xs
  have en : (Int32.ofInt (N : Int)).toNatClampNeg = N := by rw [fm_clamp (by omega) (by omega)]; omega
  have ek : (Int32.ofInt (K : Int)).toNatClampNeg = K := by rw [fm_clamp (by omega) (by omega)]; omega
  have nn : ∀ m : Nat, m < 1000 → ¬ Int32.ofInt (m : Int) < 0 := fun m hm => by
    rw [fm_z0, fm_lt ⟨by omega, by omega⟩ ⟨by decide, by decide⟩]
    omega
  obtain ⟨vm₁, cA, comp, -, fA, fC, -, -, X', step⟩ := Xs.multianewarray2F hx hown (hts _ w1) (nw_ao rfl hN2.2.1) (hts _ w2) (g := F0 Γ.2.2.2.1 pc ls (.int (Int32.ofInt (K : Int)) :: .int (Int32.ofInt (N : Int)) :: st)) rfl (by rw [hb]; exact hd) rfl (nn N hN) (nn K hKK) (by rw [en]; omega) (by rw [ek]; show K * 4 ≤ _; omega) (by rw [ek]; omega) rfl rfl (by rw [en]; omega) (by rw [en, ek]; omega)
  rw [en, ek] at X' step
  have e0 : comp = ct 0 := by
    have h9 := (hK.2 0 (ct 0, .int) rfl).2
    exact Option.some.inj (fC.symm.trans h9)
  have e2 : cA = ct 2 := by
    have h9 := (hK.2 2 (ct 2, .array .int) rfl).2
    exact Option.some.inj (fA.symm.trans h9)
  subst e0 e2
  generalize hF : Jvm.Free.Multi.fill (T.setVm vm₁) (ct 2) (ct 0) N K (defaultValue .int) N = F at X' step
  have hTh : (T.setVm vm₁).heap = H := hT
  obtain ⟨f1, f2, -, -⟩ := Jvm.Free.Multi.fill_facts (T.setVm vm₁) (ct 2) (ct 0) N K (defaultValue .int) N
  rw [hF, hTh] at f1 f2
  have hold : ∀ x : Nat, x < H.size → F.heap[x]? = H[x]? := fun x hx => by
    have := Jvm.Free.Multi.fill_old (T.setVm vm₁) (ct 2) (ct 0) N K (defaultValue .int) (a := x) (by rw [hTh]; exact hx) N
    rw [hF, hTh] at this
    exact this
  have hrow : ∀ j : Nat, j < N → F.heap[H.size + 1 + j]? = some (arrV (ct 0) K (fun _ => .int (Int32.ofInt 0))) := fun j hj => by
    have := Jvm.Free.Multi.fill_inner (T.setVm vm₁) (ct 2) (ct 0) N K (defaultValue .int) N j hj
    rw [hF, hTh] at this
    rw [this]
    congr 1
    rw [← fm_z0]
    exact arrV_new ..
  rw [nw_outer] at f2
  have hPn : va_P D vwCl (nw_ws a0 (n + 1 + N) (nw_mn ct a0 G n N K)) F.heap := nw_P (fun i hi => by
    unfold nw_mn
    split
    · rename_i q
      have := hP i _ (nw_at q)
      exact va_at.kept this (hold _ (by rw [hH]; simp only; omega))
    · split
      · rename_i q1 q2
        subst q2
        show F.heap[a0 + i]? = some (arrV (ct 2) N (fun j => va_rf (some (a0 + (i + 1 + j)))))
        rw [← hH, f2, hH]
        congr 1
        refine nw_arr (fun j hj => ?_)
        rw [if_pos hj]
        congr 2
        omega
      · rename_i q1 q2
        have := hrow (i - n - 1) (by omega)
        rw [hH, show a0 + n + 1 + (i - n - 1) = a0 + i by omega] at this
        exact this)
  obtain ⟨t, a1, b1⟩ := k C0 hL (by omega) F.heap locs ls hPn ⟨by rw [f1]; have := hS.1; omega, fun x q1 q2 => (hold x (Nat.lt_of_lt_of_le q1 hS.1)).trans (hS.2.1 x q1 q2), hS.2.2⟩ (by rw [f1]; omega) hl F rfl X'
  refine ⟨t, step t ?_, b1⟩
  have e : T.heap.size = a0 + n := by rw [hT, hH]
  rw [e]
  exact a1
/-- what comes behind a constructor's call -/
theorem nw_after {i0 nF mc ms n' c' s' : Nat} {F : Nat → va_E} {a : Array Value} {rest st0 : List Value} (hn : n = i0 + 1) (hn' : n' = i0 + nF) (hc' : c' = cells + mc) (hs' : s' = slots + ms) (hnf : nF = mc + 1) (C0 : nw_C D ct Γ M a0) (hL : L.length = M.2.2.2.1) (hz : Γ.2.2.1.heap.size + cells = a0 + n) {H : Heap} {locs : List Loc} {ls : Array Slot} (hP : va_P D vwCl (nw_ws a0 n G) H) (hS : va_S (fun q => a0 ≤ q) Γ.2.2.1.heap H locs) (hH : H.size = a0 + n) (hl : fm_L ls L)
    (hr : va_Run Γ.1 l Γ.2.1 M.2.2.1 Γ.2.2.1 Γ.2.2.2.1 Γ.2.2.2.2.1 Γ.2.2.2.2.2.1 Γ.2.2.2.2.2.2.1 Γ.2.2.2.2.2.2.2 H locs cells slots mc ms (F0 Γ.2.2.2.1 pc ls st0) rest (nw_Qc (a0 + i0) nF (fun H => va_P D vwCl (nw_ws (a0 + i0) nF F) H) a) (fun q => a0 + i0 ≤ q))
    (kk : nw_W l D ct Γ M a0 Q n' c' s' (nw_cat G i0 F) (pc + 3) L rest) : W Γ.1 l Γ.2.1 M.2.2.1 Γ.2.2.1 Γ.2.2.2.1 Γ.2.2.2.2.1 Γ.2.2.2.2.2.1 Γ.2.2.2.2.2.2.1 Γ.2.2.2.2.2.2.2 H locs cells slots Q (F0 Γ.2.2.2.1 pc ls st0) := by
  subst hn hn' hc' hs'
  intro T hT X
  obtain ⟨v, st₀, t, T', L2, h0, X', hL2, e1, e2, ⟨hv, hsz, hPP, hk⟩, stp⟩ := hr T hT X
  cases hv
  rw [h0] at hk
  obtain ⟨hx, hb, hml, hown, hts, hK, hN2, hA⟩ := id C0
  have hS' : va_S (fun q => a0 ≤ q) Γ.2.2.1.heap T'.heap (locs ++ L2) := ⟨by rw [e1, hsz]; have := hS.1; omega, fun q q1 q2 => by rw [e1, hk q (by omega)]; exact hS.2.1 q q1 q2, fun q hq => by
      rcases List.mem_append.mp hq with h | h
      · exact hS.2.2 q h
      · have := hL2 q h
        exact Nat.le_trans (Nat.le_add_right _ _) this⟩
  have hPn : va_P D vwCl (nw_ws a0 (i0 + nF) (nw_cat G i0 F)) T'.heap := nw_P (fun i hi => by
    rw [e1]
    unfold nw_cat
    split
    · rename_i q
      exact va_at.kept (hP i _ (nw_at (by omega))) (hk _ (by simp only; omega))
    · have := hPP (i - i0) _ (nw_at (by omega))
      rw [show a0 + i0 + (i - i0) = a0 + i by omega] at this
      exact this)
  obtain ⟨t2, a1, b1⟩ := kk C0 hL (by omega) T'.heap (locs ++ L2) ls hPn hS' (by rw [e1, hsz]; omega) hl T' rfl X'
  exact ⟨t2, stp t2 a1, b1⟩
theorem nw_blind {av : List Value} {b : Nat} {e0 : va_E} : FrameBlind (va_Pc av (fun U => U.heap.size = b + 1 ∧ va_at D vwCl (b, e0) U.heap ∧ va_K D vwCl (fm_tys ct) U ∧ nw_N U)) := fun a U g mk q => by
  obtain ⟨q0, q1, q2, qK, qN⟩ := q
  exact ⟨q0, q1, q2, va_K.moved (u := U) (U := U.calling g mk a) (Vm.Alike.refl U.vm) qK, nw_N.same (u := U) rfl qN⟩
def nw_Y (y : MethodName) (cc : ByteArray) (nL np : Nat) : Prop := Cond.initialized y.cls ∈ fm_T ∧ Cond.instanceMethod y ∈ fm_T ∧ Cond.code y cc nL none ∈ fm_T ∧ y.name = "<init>" ∧ y.cls ≠ "java/lang/invoke/MethodHandle" ∧ y.cls ≠ "java/lang/invoke/VarHandle" ∧ (parseMethodDescriptor y.desc).map (fun d => d.parameters.length) = some np
theorem nw_goods {y : MethodName} {cc : ByteArray} {nL : Nat} (wc : Cond.code y cc nL none ∈ fm_T) : GoodIn fm_T (Cond.code y cc nL none :: fm_T) := fun w hw => fm_good w (by
  rcases List.mem_cons.mp hw with rfl | hw
  · exact wc
  · exact hw)
theorem nw_callN {y : MethodName} {cc : ByteArray} {idx nL np i0 nF : Nat} {rm : Room} {As rest : List Value} {e0 : va_E} {F : Nat → va_E} (n' c' s' : Nat) (hn : n = i0 + 1) (hn' : n' = i0 + nF) (hc' : c' = cells + rm.cells) (hs' : s' = slots + rm.slots) (hnf : nF = rm.cells + 1) (hd : decode M.1 pc = .ok (.invokespecial idx, 3)) (hM : nw_Met l D ct y cc nL rm (.ref (a0 + i0) :: As) (a0 + i0) e0 nF (fun H => va_P D vwCl (nw_ws (a0 + i0) nF F) H)) (hG : G i0 = e0) (wl : ∀ U, nw_N U → va_Nw (.methodLinkNest M.2.1 idx y RX8) U) (hy : nw_Y y cc nL np) (hAs : As.length = np) (hR : rm.frames + 1 ≤ M.2.2.1.frames ∧ 8 + (nL + 11) + rm.locals ≤ M.2.2.1.locals) (h1 : c' ≤ M.2.2.1.cells) (h2 : s' ≤ M.2.2.1.slots) (hst : st = As.reverse ++ .ref (a0 + i0) :: rest) (hW : (rest.map fun v => v.category).sum ≤ 8)
    (k : nw_W l D ct Γ M a0 Q n' c' s' (nw_cat G i0 F) (pc + 3) L rest) : nw_W l D ct Γ M a0 Q n cells slots G pc L st := by
  intro C0 hL hz H locs ls hP hS hH hl
  subst hst
  obtain ⟨hx, hb, hml, hown, hts, hK, hN2, hA⟩ := id C0
  obtain ⟨y1, y2, y3, y4, y5⟩ := hy
  have he := hP i0 _ (nw_at (by omega))
  rw [hG] at he
  exact nw_after hn hn' hc' hs' hnf C0 hL hz hP hS hH hl (va_runIN (As := As) (rest := rest) (b := a0 + i0) ⟨hx, hb, hml, hown, hts⟩ hM ⟨va_cnB np hts (nw_goods y3) rfl rfl rfl (wl _ hN2) (hts _ y1) y5 hR, y4, hts _ y2⟩ ⟨nw_blind, fun U hU hW => ⟨rfl, by rw [hU, hH]; omega, by rw [hU]; exact he, va_K.moved hW.alike hK, nw_N.warm hW hN2⟩⟩ rfl hAs (hl.1.trans hL) rfl (lv_room hW) hd ⟨by omega, by omega⟩) k
theorem nw_callP {y : MethodName} {cc : ByteArray} {idx nL np i0 nF : Nat} {rm : Room} {As rest : List Value} {e0 : va_E} {F : Nat → va_E} (n' c' s' : Nat) (hn : n = i0 + 1) (hn' : n' = i0 + nF) (hc' : c' = cells + rm.cells) (hs' : s' = slots + rm.slots) (hnf : nF = rm.cells + 1) (hd : decode M.1 pc = .ok (.invokespecial idx, 3)) (hM : nw_Met l D ct y cc nL rm (.ref (a0 + i0) :: As) (a0 + i0) e0 nF (fun H => va_P D vwCl (nw_ws (a0 + i0) nF F) H)) (hG : G i0 = e0) (wl : Cond.methodLink M.2.1 idx y ∈ fm_T) (hy : nw_Y y cc nL np) (hAs : As.length = np) (hR : rm.frames + 1 ≤ M.2.2.1.frames ∧ 8 + (nL + 11) + rm.locals ≤ M.2.2.1.locals) (h1 : c' ≤ M.2.2.1.cells) (h2 : s' ≤ M.2.2.1.slots) (hst : st = As.reverse ++ .ref (a0 + i0) :: rest) (hW : (rest.map fun v => v.category).sum ≤ 8)
    (k : nw_W l D ct Γ M a0 Q n' c' s' (nw_cat G i0 F) (pc + 3) L rest) : nw_W l D ct Γ M a0 Q n cells slots G pc L st := by
  intro C0 hL hz H locs ls hP hS hH hl
  subst hst
  obtain ⟨hx, hb, hml, hown, hts, hK, hN2, hA⟩ := id C0
  obtain ⟨y1, y2, y3, y4, y5⟩ := hy
  have he := hP i0 _ (nw_at (by omega))
  rw [hG] at he
  exact nw_after hn hn' hc' hs' hnf C0 hL hz hP hS hH hl (va_runI (As := As) (rest := rest) (b := a0 + i0) ⟨hx, hb, hml, hown, hts⟩ hM (cwI np hts (nw_goods y3) rfl rfl rfl (hts _ y1) (hts _ wl) (hts _ y2) y4 y5 hR) ⟨nw_blind, fun U hU hW => ⟨rfl, by rw [hU, hH]; omega, by rw [hU]; exact he, va_K.moved hW.alike hK, nw_N.warm hW hN2⟩⟩ rfl hAs (hl.1.trans hL) rfl (lv_room hW) hd ⟨by omega, by omega⟩) k
end NWB
