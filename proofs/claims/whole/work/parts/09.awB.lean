/-! fm_: heap rows, returns, start, calls -/
section FMB
variable {S : fm_Sh} {ω : fm_O} {Γ : fm_G} {M : fm_M} {P : Option Value → fm_Mem → Prop} {σ : fm_Mem} {pc : Nat} {L : List (Option Value)} {st : List Value}
theorem fm_obv {k ci j : Nat} {ad : Nat → Nat} (hj : j < S.2.2.2.1 ci) : ((List.range (S.2.2.2.1 ci)).map (fun j => if S.2.2.2.2 ci j then Value.ref (ad (S.2.2.1 k j)) else Value.int (Int32.ofInt (σ k j))))[j]? = some (if S.2.2.2.2 ci j then Value.ref (ad (S.2.2.1 k j)) else Value.int (Int32.ofInt (σ k j))) := by
  rw [List.getElem?_map, List.getElem?_range hj]
  rfl
theorem fm_getI {idx k ci j : Nat} (hd : decode M.1 pc = .ok (.getfield idx, 3)) (hF : fm_Fd M.2.1 ci j idx) (ho : fm_ob S k ci) (hj : j < S.2.2.2.1 ci) (hi : S.2.2.2.2 ci j = false) (kk : fm_W S ω Γ M P σ (pc + 3) L (fm_I (σ k j) :: st)) : fm_W S ω Γ M P σ pc L (fm_r ω k :: st) := by
  intro C hL H locs ls hP hS hl
  obtain ⟨hx, hb, hml, hown, hts, hr, hlk, hK, hD⟩ := id C
  obtain ⟨Cn, T, N, ty, h1, h2, h3, h4, h5, h6⟩ := hF
  have he := fm_ws_at (S := S) (ct := ω.2.2.1) (ad := ω.2.2.2) (σ := σ) ho.1
  rw [fm_e_ob ho] at he
  refine va_get hx hb hts h3 hown hK hP k he h1 j h2 (hts _ h4) (fun _ h9 => h9) (v := fm_I (σ k j)) ?_ hd (kk C hL H locs ls hP hS hl)
  rw [fm_obv hj, hi]
  rfl
theorem fm_getR {idx k ci j : Nat} (k2 : Nat) (hd : decode M.1 pc = .ok (.getfield idx, 3)) (hF : fm_Fd M.2.1 ci j idx) (ho : fm_ob S k ci) (hj : j < S.2.2.2.1 ci) (hi : S.2.2.2.2 ci j = true) (hk : S.2.2.1 k j = k2) (kk : fm_W S ω Γ M P σ (pc + 3) L (fm_r ω k2 :: st)) : fm_W S ω Γ M P σ pc L (fm_r ω k :: st) := by
  intro C hL H locs ls hP hS hl
  obtain ⟨hx, hb, hml, hown, hts, hr, hlk, hK, hD⟩ := id C
  obtain ⟨Cn, T, N, ty, h1, h2, h3, h4, h5, h6⟩ := hF
  have he := fm_ws_at (S := S) (ct := ω.2.2.1) (ad := ω.2.2.2) (σ := σ) ho.1
  rw [fm_e_ob ho] at he
  refine va_get hx hb hts h3 hown hK hP k he h1 j h2 (hts _ h4) (fun _ h9 => h9) (v := fm_r ω k2) ?_ hd (kk C hL H locs ls hP hS hl)
  rw [fm_obv hj, hi, hk]
  rfl
theorem fm_put {idx k ci j : Nat} {z : Int} (hd : decode M.1 pc = .ok (.putfield idx, 3)) (hF : fm_Fd M.2.1 ci j idx) (hw : fm_Wr ci j) (ho : fm_ob S k ci) (hj : j < S.2.2.2.1 ci) (hi : S.2.2.2.2 ci j = false) (kk : fm_W S ω Γ M P (fm_up σ k j z) (pc + 3) L st) : fm_W S ω Γ M P σ pc L (fm_I z :: fm_r ω k :: st) := by
  intro C hL H locs ls hP hS hl
  obtain ⟨hx, hb, hml, hown, hts, hr, hlk, hK, hD⟩ := id C
  obtain ⟨Cn, T, N, ty, h1, h2, h3, h4, h5, h6⟩ := hF
  obtain ⟨C2, T2, N2, g1, g2, g3⟩ := hw
  have e9 : (Cn, T, N) = (C2, T2, N2) := Option.some.inj (h1.symm.trans g1)
  cases e9
  have he := fm_ws_at (S := S) (ct := ω.2.2.1) (ad := ω.2.2.2) (σ := σ) ho.1
  rw [fm_e_ob ho] at he
  refine va_put (v := fm_I z) (ty := .int) hx hb hts h3 ty h5 h6 hown hK hP (fm_D hD (fun k hk => ⟨k, hk, rfl⟩)) hS k he h1 j h2 (hts _ h4) (fun _ h9 => h9) g2 g3 rfl rfl (by rw [List.length_map, List.length_range]; exact hj) hd (fun H1 locs1 hP1 hD1 hS1 => ?_)
  refine kk C hL H1 locs1 ls ?_ hS1 hl
  rw [fm_ws_set (σ' := fm_up σ k j z) ho.1 ?_ (fun i hi => fm_e_up_ne hi)] at hP1
  · exact hP1
  · rw [fm_e_ob ho]
    congr 2
    apply List.ext_getElem?
    intro i
    by_cases hij : i = j
    · subst hij
      rw [List.getElem?_set_self (by rw [List.length_map, List.length_range]; exact hj), fm_obv hj, hi]
      simp [fm_up, fm_I]
    · rw [List.getElem?_set_ne (fun q => hij q.symm)]
      by_cases hil : i < S.2.2.2.1 ci
      · rw [fm_obv hil, fm_obv hil]
        have : fm_up σ k j z k i = σ k i := by simp [fm_up, hij]
        rw [this]
      · rw [List.getElem?_eq_none (by rw [List.length_map, List.length_range]; omega), List.getElem?_eq_none (by rw [List.length_map, List.length_range]; omega)]
theorem fm_iald {k n : Nat} {i : Int} (hd : decode M.1 pc = .ok (.iaload, 1)) (ha : fm_ia S k n) (h0 : 0 ≤ i) (h1 : i < (n : Int)) (kk : fm_W S ω Γ M P σ (pc + 1) L (fm_I (σ k i.toNat) :: st)) : fm_W S ω Γ M P σ pc L (fm_I i :: fm_r ω k :: st) := by
  intro C hL H locs ls hP hS hl
  obtain ⟨hx, hb, hml, hown, hts, hr, hlk, hK, hD⟩ := id C
  have he := fm_ws_at (S := S) (ct := ω.2.2.1) (ad := ω.2.2.2) (σ := σ) ha.1
  rw [fm_e_ia ha] at he
  have hn := ha.2.2
  have k2 := kk C hL H locs ls hP hS hl
  refine va_iald hx hb hK hP k 0 he rfl (fm_vin ha.2.2 h0 h1) hd ?_
  rw [fm_clamp h0 (by omega)]
  exact k2
theorem fm_iast {k n : Nat} {i z : Int} (hd : decode M.1 pc = .ok (.iastore, 1)) (ha : fm_ia S k n) (h0 : 0 ≤ i) (h1 : i < (n : Int)) (kk : fm_W S ω Γ M P (fm_up σ k i.toNat z) (pc + 1) L st) : fm_W S ω Γ M P σ pc L (fm_I z :: fm_I i :: fm_r ω k :: st) := by
  intro C hL H locs ls hP hS hl
  obtain ⟨hx, hb, hml, hown, hts, hr, hlk, hK, hD⟩ := id C
  have he := fm_ws_at (S := S) (ct := ω.2.2.1) (ad := ω.2.2.2) (σ := σ) ha.1
  rw [fm_e_ia ha] at he
  have hn := ha.2.2
  refine va_iast hx hb hK hP (fm_D hD (fun k hk => ⟨k, hk, rfl⟩)) hS k 0 he rfl (fm_vin ha.2.2 h0 h1) hd (fun H1 locs1 hP1 hD1 hS1 => ?_)
  refine kk C hL H1 locs1 ls ?_ hS1 hl
  rw [fm_clamp h0 (by omega)] at hP1
  rw [fm_ws_set (σ' := fm_up σ k i.toNat z) ha.1 ?_ (fun i hi => fm_e_up_ne hi)] at hP1
  · exact hP1
  · rw [fm_e_ia ha]
    congr 4
    funext j
    by_cases hij : j = i.toNat
    · simp [upd, fm_up, hij]
    · simp [upd, fm_up, hij]
theorem fm_aald {k t n : Nat} {i : Int} (k2 : Nat) (hd : decode M.1 pc = .ok (.aaload, 1)) (ha : fm_ra S k t n) (h0 : 0 ≤ i) (h1 : i < (n : Int)) (hk : S.2.2.1 k i.toNat = k2) (kk : fm_W S ω Γ M P σ (pc + 1) L (fm_r ω k2 :: st)) : fm_W S ω Γ M P σ pc L (fm_I i :: fm_r ω k :: st) := by
  intro C hL H locs ls hP hS hl
  obtain ⟨hx, hb, hml, hown, hts, hr, hlk, hK, hD⟩ := id C
  have he := fm_ws_at (S := S) (ct := ω.2.2.1) (ad := ω.2.2.2) (σ := σ) ha.1
  rw [fm_e_ra ha] at he
  have hn := ha.2.2.1
  have hin := fm_vin ha.2.2.1 h0 h1
  have hcl := fm_clamp h0 (show i < 2147483648 by omega)
  have hlt : (Int32.ofInt i).toNatClampNeg < n := by rw [hcl]; omega
  have hty : ∃ ty : FieldType, ArrOfT Γ.2.2.1 (ω.2.2.1 t) ty ∧ ty.isReference = true := by
    rcases ha.2.2.2 with e | e
    · subst e; exact ⟨_, (hK.2 1 (ω.2.2.1 1, .object RX3) rfl).1, rfl⟩
    · subst e; exact ⟨_, (hK.2 2 (ω.2.2.1 2, .array .int) rfl).1, rfl⟩
  obtain ⟨ty, hA, hre⟩ := hty
  have k3 := kk C hL H locs ls hP hS hl
  refine W.aald (v := fm_r ω k2) (ty := ty) hx hb (hP k _ he) (hA n (fun j => va_rf (some (ω.2.2.2 (S.2.2.1 k j))))) hre (fun q => by cases q) (by show ¬ (_ < 0 ∨ (arrV _ _ _).slots.size ≤ _); rw [arrV_size]; exact hin) (by show (arrV _ _ _).slots[_]? = _; rw [arrV_read _ _ hlt, hcl]; show some (Value.ref (ω.2.2.2 (S.2.2.1 k i.toNat))) = _; rw [hk]; rfl) rfl rfl hd k3
theorem fm_iret {z : Int} (hd : decode M.1 pc = .ok (.ireturn, 1)) (hr : M.2.2.2.2 = some .int) (h : P (some (fm_I z)) σ) : fm_W S ω Γ M P σ pc L [fm_I z] := by
  intro C hL H locs ls hP hS hl
  obtain ⟨hx, hb, hml, hown, hts, hrt, hlk, hK, hD⟩ := id C
  exact W.iret hx hb (hrt.trans hr) (fun t ht hW => ⟨some (fm_I z), σ, rfl, h, by rw [ht]; exact hP, hS.F ht⟩) hS.2.2 hd hlk
theorem fm_zret {z : Int} (hd : decode M.1 pc = .ok (.ireturn, 1)) (hr : M.2.2.2.2 = some .boolean) (hz : z = 0 ∨ z = 1) (h : P (some (fm_I z)) σ) : fm_W S ω Γ M P σ pc L [fm_I z] := by
  intro C hL H locs ls hP hS hl
  obtain ⟨hx, hb, hml, hown, hts, hrt, hlk, hK, hD⟩ := id C
  exact W.zret hx hb (hrt.trans hr) (by rcases hz with rfl | rfl <;> rfl) (fun t ht hW => ⟨some (fm_I z), σ, rfl, h, by rw [ht]; exact hP, hS.F ht⟩) hS.2.2 hd hlk
theorem fm_vret (hd : decode M.1 pc = .ok (.return_, 1)) (hr : M.2.2.2.2 = none) (h : P none σ) : fm_W S ω Γ M P σ pc L [] := by
  intro C hL H locs ls hP hS hl
  obtain ⟨hx, hb, hml, hown, hts, hrt, hlk, hK, hD⟩ := id C
  exact W.vret hx hb (hrt.trans hr) (fun t ht hW => ⟨none, σ, rfl, h, by rw [ht]; exact hP, hS.F ht⟩) hS.2.2 hd hlk
theorem fm_aret {k0 : Nat} {rt : FieldType} (hd : decode M.1 pc = .ok (.areturn, 1)) (hr : M.2.2.2.2 = some (.array rt)) (h : P (some (fm_r ω k0)) σ) : fm_W S ω Γ M P σ pc L [fm_r ω k0] := by
  intro C hL H locs ls hP hS hl
  obtain ⟨hx, hb, hml, hown, hts, hrt, hlk, hK, hD⟩ := id C
  exact W.aret hx hb (hrt.trans hr) (Or.inr ⟨rt, rfl⟩) (Or.inr ⟨_, rfl⟩) (fun t ht hW => ⟨some (fm_r ω k0), σ, rfl, h, by rw [ht]; exact hP, hS.F ht⟩) hS.2.2 hd hlk
theorem fm_in_len : ∀ (av : List Value) (n : Nat), (fm_in av n).length = n
  | _, 0 => by unfold fm_in; rfl
  | [], n + 1 => by unfold fm_in; simp [fm_in_len [] n]
  | v :: vs, n + 1 => by
    unfold fm_in
    split
    · cases n with
      | zero => rfl
      | succ k => simp [fm_in_len vs k]
    · simp [fm_in_len vs n]
theorem fm_in_at : ∀ (av : List Value) (n b : Nat) (i : Nat) (v : Value), (fm_in av n)[i]? = some (some v) → (b + i, v) ∈ lv_args b av
  | _, 0, _, i, v, h => by unfold fm_in at h; simp at h
  | [], n + 1, b, i, v, h => by
    unfold fm_in at h
    cases i with
    | zero => simp at h
    | succ j =>
      simp at h
      have := fm_in_at [] n 0 j v h
      simp [lv_args] at this
  | a :: vs, n + 1, b, i, v, h => by
    unfold fm_in at h
    unfold lv_args
    by_cases hc : a.category = 2
    · rw [if_pos hc] at h
      rw [if_pos hc]
      cases n with
      | zero =>
        cases i with
        | zero => simp at h; subst h; simp
        | succ j => simp at h
      | succ k =>
        cases i with
        | zero => simp at h; subst h; simp
        | succ j =>
          cases j with
          | zero => simp at h
          | succ j2 =>
            simp at h
            have := fm_in_at vs k (b + 2) j2 v h
            refine List.mem_cons_of_mem _ ?_
            rw [show b + (j2 + 1 + 1) = b + 2 + j2 by omega]
            exact this
    · rw [if_neg hc] at h
      rw [if_neg hc]
      cases i with
      | zero => simp at h; subst h; simp
      | succ j =>
        simp at h
        have := fm_in_at vs n (b + 1) j v h
        refine List.mem_cons_of_mem _ ?_
        rw [show b + (j + 1) = b + 1 + j by omega]
        exact this
theorem fm_start {y : MethodName} {cc : ByteArray} {own : String} {rm : Room} {n : Nat} {ret : Option FieldType} {av : List Value} (hy : plainName y.cls = true) (hown : y.cls = own) (hlen : (lg_sl av).length ≤ n) (L0 : List (Option Value)) (hL0 : fm_in av n = L0)
    (k : ∀ Γ : fm_G, fm_W S ω Γ (cc, own, rm, n, ret) P σ 0 L0 []) : fm_Met S ω y cc n ret rm av σ P := by
  refine Met.ofW (cc := cc) (maxL := n) (ret := ret) hy rfl ?_
  intro p e s m args below meth c s₁ B hml hv
  obtain ⟨rfl, hP, hK, hD⟩ := hv
  have hts := atoms_spec (ws := Cond.code y cc n ret :: fm_T) B.pre
  have hown2 : s.vm.findClass own = some m.cls := by rw [← hown]; exact findClass_of_methodNamed B.named
  have hl := lv_entry av (n := n) hlen
  rw [lg_entry_eq]
  refine k (p, e, s, m, av.toArray, below, meth, c) ⟨B.exec, B.bytes, hml, hown2, fun w hw => hts w (List.mem_cons_of_mem _ hw), B.returns, B.notSynchronized, hK, fm_D hD (fun k hk => ⟨k, hk, rfl⟩)⟩ (by rw [← hL0, fm_in_len]) s.heap [] _ hP va_S.rf ⟨by rw [← hL0, fm_in_len]; exact hl.1, hl.2.1, fun i v hv => ?_⟩
  subst hL0
  have := fm_in_at av n 0 i v hv
  rw [Nat.zero_add] at this
  exact hl.2.2 _ this
theorem fm_blind {av : List Value} : FrameBlind (va_Pc av (fun U => va_P ω.2.1 vwCl (fm_ws S ω.2.2.1 ω.2.2.2 σ) U.heap ∧ va_K ω.2.1 vwCl (fm_tys ω.2.2.1) U ∧ va_D (fun _ => True) (fm_ws S ω.2.2.1 ω.2.2.2 (fun _ _ => 0)))) := fun a U g mk q => by
  obtain ⟨q0, qP, qK, qD⟩ := q
  exact ⟨q0, qP, va_K.moved (u := U) (U := U.calling g mk a) (Vm.Alike.refl U.vm) qK, qD⟩
/-- what comes behind a call -/
theorem fm_after {P2 : Option Value → fm_Mem → Prop} {a : Array Value} {rest st0 : List Value} (C : fm_C S ω Γ M) (hL : L.length = M.2.2.2.1) {H : Heap} {locs : List Loc} {ls : Array Slot} (hS : va_S (fm_A S ω.2.2.2) Γ.2.2.1.heap H locs) (hl : fm_L ls L)
    (hr : va_Run Γ.1 ω.1 Γ.2.1 M.2.2.1 Γ.2.2.1 Γ.2.2.2.1 Γ.2.2.2.2.1 Γ.2.2.2.2.2.1 Γ.2.2.2.2.2.2.1 Γ.2.2.2.2.2.2.2 H locs 0 0 0 0 (F0 Γ.2.2.2.1 pc ls st0) rest (fm_Qc S ω P2 a) (fm_A S ω.2.2.2))
    (kk : ∀ (v : Option Value) (σ' : fm_Mem), P2 v σ' → fm_W S ω Γ M P σ' (pc + 3) L (v.toList ++ rest)) : W Γ.1 ω.1 Γ.2.1 M.2.2.1 Γ.2.2.1 Γ.2.2.2.1 Γ.2.2.2.2.1 Γ.2.2.2.2.2.1 Γ.2.2.2.2.2.2.1 Γ.2.2.2.2.2.2.2 H locs 0 0 (MQ Γ.2.2.2.2.2.1 (fm_Qc S ω P) Γ.2.2.2.2.1 Γ.2.2.1 0 0 (fm_A S ω.2.2.2)) (F0 Γ.2.2.2.1 pc ls st0) := by
  intro T hT X
  obtain ⟨v, st₀, t, T', L2, h0, X', hL2, e1, e2, ⟨v', σ', hv, hp, hPP, hz, hk⟩, stp⟩ := hr T hT X
  cases hv
  rw [h0] at hz hk
  have hS' : va_S (fm_A S ω.2.2.2) Γ.2.2.1.heap T'.heap (locs ++ L2) := ⟨Nat.le_trans hS.1 (by rw [e1]; exact hz), fun q h1 h2 => by rw [e1, hk q (Nat.lt_of_lt_of_le h1 hS.1) h2]; exact hS.2.1 q h1 h2, fun q hq => by
      rcases List.mem_append.mp hq with h | h
      · exact hS.2.2 q h
      · exact hL2 q h⟩
  obtain ⟨t2, a1, b1⟩ := kk v σ' hp C hL T'.heap (locs ++ L2) ls (by rw [e1]; exact hPP) hS' hl T' rfl X'
  exact ⟨t2, stp t2 a1, b1⟩
theorem fm_callV {P2 : Option Value → fm_Mem → Prop} {y : MethodName} {rm : Room} {b ci idx maxL n : Nat} {bytes : ByteArray} {ret : Option FieldType} {As rest : List Value} (hd : decode M.1 pc = .ok (.invokevirtual idx, 3)) (hc : fm_CV M.2.1 idx ci y bytes maxL ret n) (hM : fm_Met S ω y bytes maxL ret rm (fm_r ω b :: As) σ P2) (ho : fm_ob S b ci) (hrc : rm.cells = 0) (hrs : rm.slots = 0)
    (hR : rm.frames + 1 ≤ M.2.2.1.frames ∧ 8 + (maxL + 11) + rm.locals ≤ M.2.2.1.locals) (hn : As.length = n) (hst : st = As.reverse ++ fm_r ω b :: rest) (hW : (rest.map fun v => v.category).sum ≤ 8)
    (kk : ∀ (v : Option Value) (σ' : fm_Mem), P2 v σ' → fm_W S ω Γ M P σ' (pc + 3) L (v.toList ++ rest)) : fm_W S ω Γ M P σ pc L st := by
  intro C hL H locs ls hP hS hl
  subst hst
  obtain ⟨hx, hb, hml, hown, hts, hrt, hlk, hK, hD⟩ := id C
  obtain ⟨⟨c1, c2, c3, c4, c5⟩, ⟨T, N, c6⟩, c7⟩ := hc
  have he := fm_ws_at (S := S) (ct := ω.2.2.1) (ad := ω.2.2.2) (σ := σ) ho.1
  rw [fm_e_ob ho] at he
  have hG : GoodIn fm_T (wsV M.2.1 idx y.cls y (Cond.code y bytes maxL ret :: fm_T)) := fun w hw => fm_good w (by
    unfold wsV at hw
    simp only [List.cons_append, List.nil_append, List.mem_cons] at hw
    rcases hw with rfl | rfl | rfl | rfl | rfl | hw
    · exact c1
    · exact c2
    · exact c3
    · exact c4
    · exact c5
    · exact hw)
  refine fm_after C hL hS hl (va_runV (As := As) (rest := rest) (b := ω.2.2.2 b) ⟨hx, hb, hml, hown, hts⟩ hM (cwV n hts hG rfl hrc hrs ⟨rfl, c7⟩ hR) ⟨fm_blind, va_recv hK hP c6 he, fun U hU hW => ⟨rfl, by rw [hU]; exact hP, va_K.moved hW.alike hK, fm_D hD (fun _ _ => trivial)⟩⟩ rfl hn (hl.1.trans hL) rfl (lv_room hW) hd ⟨Nat.zero_le _, Nat.zero_le _⟩) kk
theorem fm_callS {P2 : Option Value → fm_Mem → Prop} {y : MethodName} {rm : Room} {idx maxL n : Nat} {bytes : ByteArray} {ret : Option FieldType} {As rest : List Value} (hd : decode M.1 pc = .ok (.invokestatic idx, 3)) (hc : fm_CS M.2.1 idx y bytes maxL ret n) (hM : fm_Met S ω y bytes maxL ret rm As σ P2) (hrc : rm.cells = 0) (hrs : rm.slots = 0)
    (hR : rm.frames + 1 ≤ M.2.2.1.frames ∧ 8 + (maxL + 11) + rm.locals ≤ M.2.2.1.locals) (hn : As.length = n) (hst : st = As.reverse ++ rest) (hW : (rest.map fun v => v.category).sum ≤ 8)
    (kk : ∀ (v : Option Value) (σ' : fm_Mem), P2 v σ' → fm_W S ω Γ M P σ' (pc + 3) L (v.toList ++ rest)) : fm_W S ω Γ M P σ pc L st := by
  intro C hL H locs ls hP hS hl
  subst hst
  obtain ⟨hx, hb, hml, hown, hts, hrt, hlk, hK, hD⟩ := id C
  obtain ⟨⟨c1, c2, c4, c5⟩, c7⟩ := hc
  have hG : GoodIn fm_T (va_wsS M.2.1 idx y (Cond.code y bytes maxL ret :: fm_T)) := fun w hw => fm_good w (by
    unfold va_wsS at hw
    simp only [List.cons_append, List.nil_append, List.mem_cons] at hw
    rcases hw with rfl | rfl | rfl | rfl | hw
    · exact c1
    · exact c2
    · exact c4
    · exact c5
    · exact hw)
  refine fm_after C hL hS hl (va_runS (As := As) (rest := rest) ⟨hx, hb, hml, hown, hts⟩ hM (va_cwS n hts hG rfl hrc hrs c7 hR) ⟨fm_blind, fun U hU hW => ⟨rfl, by rw [hU]; exact hP, va_K.moved hW.alike hK, fm_D hD (fun _ _ => trivial)⟩⟩ rfl hn (hl.1.trans hL) rfl (lv_room hW) hd ⟨Nat.zero_le _, Nat.zero_le _⟩) kk
theorem fm_min {idx n : Nat} {x y : Int} (hd : decode M.1 pc = .ok (.invokestatic idx, 3)) (hc : fm_CS M.2.1 idx Lib.Math.min.name Lib.Math.min.code 2 (some .int) n) (hf : 1 ≤ M.2.2.1.frames) (hR : (st.map fun v => v.category).sum + 13 ≤ M.2.2.1.locals) (rx : fm_R x) (ry : fm_R y) (k : fm_W S ω Γ M P σ (pc + 3) L (fm_I (min x y) :: st)) : fm_W S ω Γ M P σ pc L (fm_I y :: fm_I x :: st) := by
  intro C hL H locs ls hP hS hl
  obtain ⟨hx, hb, hml, hown, hts, hrt, hlk, hK, hD⟩ := id C
  obtain ⟨⟨c1, c2, c4, c5⟩, c7⟩ := hc
  have k2 := k C hL H locs ls hP hS hl
  refine va_mmin hx hb (hml.trans (hL.symm.trans hl.1.symm)) hown (hts _ c1) (hts _ c2) (hts _ c4) (hts _ c5) hf hR (Nat.zero_le _) (Nat.zero_le _) hd ?_
  refine W.eq ?_ k2
  congr 2
  show Value.int _ = Value.int _
  congr 1
  split
  · rename_i h
    have := (fm_lt ry rx).mp h
    congr 1
    omega
  · rename_i h
    have : ¬ y < x := fun q => h ((fm_lt ry rx).mpr q)
    congr 1
    omega
theorem fm_max {idx n : Nat} {x y : Int} (hd : decode M.1 pc = .ok (.invokestatic idx, 3)) (hc : fm_CS M.2.1 idx Lib.Math.max.name Lib.Math.max.code 2 (some .int) n) (hf : 1 ≤ M.2.2.1.frames) (hR : (st.map fun v => v.category).sum + 13 ≤ M.2.2.1.locals) (rx : fm_R x) (ry : fm_R y) (k : fm_W S ω Γ M P σ (pc + 3) L (fm_I (max x y) :: st)) : fm_W S ω Γ M P σ pc L (fm_I y :: fm_I x :: st) := by
  intro C hL H locs ls hP hS hl
  obtain ⟨hx, hb, hml, hown, hts, hrt, hlk, hK, hD⟩ := id C
  obtain ⟨⟨c1, c2, c4, c5⟩, c7⟩ := hc
  have k2 := k C hL H locs ls hP hS hl
  refine va_mmax hx hb (hml.trans (hL.symm.trans hl.1.symm)) hown (hts _ c1) (hts _ c2) (hts _ c4) (hts _ c5) hf hR (Nat.zero_le _) (Nat.zero_le _) hd ?_
  refine W.eq ?_ k2
  congr 2
  show Value.int _ = Value.int _
  congr 1
  split
  · rename_i h
    have := (fm_lt rx ry).mp h
    congr 1
    omega
  · rename_i h
    have : ¬ x < y := fun q => h ((fm_lt rx ry).mpr q)
    congr 1
    omega
theorem fm_abs {idx n : Nat} {x : Int} (hd : decode M.1 pc = .ok (.invokestatic idx, 3)) (hc : fm_CS M.2.1 idx Lib.Math.abs.name Lib.Math.abs.code 1 (some .int) n) (hf : 1 ≤ M.2.2.1.frames) (hR : (st.map fun v => v.category).sum + 13 ≤ M.2.2.1.locals) (rx : fm_R x) (k : fm_W S ω Γ M P σ (pc + 3) L (fm_I (if x < 0 then -x else x) :: st)) : fm_W S ω Γ M P σ pc L (fm_I x :: st) := by
  intro C hL H locs ls hP hS hl
  obtain ⟨hx, hb, hml, hown, hts, hrt, hlk, hK, hD⟩ := id C
  obtain ⟨⟨c1, c2, c4, c5⟩, c7⟩ := hc
  have k2 := k C hL H locs ls hP hS hl
  refine va_mabs hx hb (hml.trans (hL.symm.trans hl.1.symm)) hown (hts _ c1) (hts _ c2) (hts _ c4) (hts _ c5) hf hR (Nat.zero_le _) (Nat.zero_le _) hd ?_
  refine W.eq ?_ k2
  congr 2
  show Value.int _ = Value.int _
  congr 1
  have e : (0 ≤ Int32.ofInt x) ↔ 0 ≤ x := by rw [fm_z0]; exact fm_le ⟨by decide, by decide⟩ rx
  by_cases h : x < 0
  · rw [if_pos h, if_neg (fun q => by have := e.mp q; omega), Int32.ofInt_neg, Int32.zero_sub]
  · rw [if_neg h, if_pos (e.mpr (by omega))]
end FMB
