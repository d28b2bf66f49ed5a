/-! the law: its loop, its start -/
theorem lw_exit {p : Program} {e : Env} {s : State} {m : MethodId} {below : List Frame} {meth : Method} {c : Code} {l : Launch} {D : va_G} {ct : Nat → ClassId} {b N : Nat} {xs : Nat → Int32} {σ μ : fm_Mem} {L : List (Option Value)} (hr : meth.sig.returnType = ret) (hlk : meth.locks = false) : lw_V l D ct (p, e, s, m, #[Value.ref b], below, meth, c) (lw_Z below #[Value.ref b] s) b N xs kc km (la1 s.heap.size) (la2 s.heap.size) σ μ 784 L [] := by
  intro C hL H locs ls hP hP2 hS hl
  obtain ⟨hx, hb, hml, hown, hts, hK, hX, hbl, hZ⟩ := id C
  refine lv_iconst (v := 1) hx hb dL_law_784 (by decide) ?_
  exact va_forget (fun q hq => hS.2.2 q hq) (lw_ret hx hb hr hlk dL_law_785)
set_option maxRecDepth 20000 in
set_option maxHeartbeats 4000000 in
theorem lw_loop {p : Program} {e : Env} {s : State} {m : MethodId} {below : List Frame} {meth : Method} {c : Code} {l : Launch} {D : va_G} {ct : Nat → ClassId} {b N : Nat} {xs : Nat → Int32} (hN : N ≤ 2560) (hr : meth.sig.returnType = ret) (hlk : meth.locks = false) : ∀ (d : Nat) (i : Int) (σ μ : fm_Mem), 0 ≤ i → i ≤ 2560 → (N : Int) - 5 - i < 5 * (d : Int) → fj μ → rel μ σ → lw_V l D ct (p, e, s, m, #[Value.ref b], below, meth, c) (lw_Z below #[Value.ref b] s) b N xs kc km (la1 s.heap.size) (la2 s.heap.size) σ μ 18 [some (.ref b), some (.ref (la1 s.heap.size 0)), some (.ref (la2 s.heap.size 0)), some (fm_I i)] [] := by
  intro d
  induction d with
  | zero =>
    intro i σ μ h0 h1 h2 hi h
    refine lw_iload (i := 3) rfl dL_law_18 ?_
    refine lw_aload (i := 0) rfl dL_law_19 ?_
    refine lw_slen dL_law_20 ?_
    refine lw_iconst dL_law_21 ?_
    refine lw_isub dL_law_22 ?_
    refine lw_gt 784 ⟨by omega, by omega⟩ ⟨by omega, by omega⟩ dL_law_23 (by decide) (fun hg => lw_exit hr hlk) (fun hg => ?_)
    exfalso
    omega
  | succ d ih =>
    intro i σ μ h0 h1 h2 hi h
    refine lw_iload (i := 3) rfl dL_law_18 ?_
    refine lw_aload (i := 0) rfl dL_law_19 ?_
    refine lw_slen dL_law_20 ?_
    refine lw_iconst dL_law_21 ?_
    refine lw_isub dL_law_22 ?_
    refine lw_gt 784 ⟨by omega, by omega⟩ ⟨by omega, by omega⟩ dL_law_23 (by decide) (fun hg => lw_exit hr hlk) (fun hg => ?_)
    have h5 : i + 5 ≤ (N : Int) := by omega
    have next : ∀ σ' μ' : fm_Mem, fj μ' → rel μ' σ' → lw_V l D ct (p, e, s, m, #[Value.ref b], below, meth, c) (lw_Z below #[Value.ref b] s) b N xs kc km (la1 s.heap.size) (la2 s.heap.size) σ' μ' 778 [some (.ref b), some (.ref (la1 s.heap.size 0)), some (.ref (la2 s.heap.size 0)), some (fm_I i)] [] := fun σ' μ' hi' h' => lw_inc3 rfl dL_law_778 (lw_goto 18 dL_law_781 (by decide) (ih (i + 5) σ' μ' (by omega) (by omega) (by omega) hi' h'))
    refine lw_aload (i := 0) rfl dL_law_26 ?_
    refine lw_iload (i := 3) rfl dL_law_27 ?_
    refine lw_sld (by omega) (by omega) hN dL_law_28 ?_
    refine lw_bipush (by decide) dL_law_29 ?_
    refine lw_iand ((xs i.toNat) &&& 31).toInt (by unfold lx; rw [fm_asI, fm_asI]; rfl) dL_law_31 ?_
    have hz := fm_rng ((xs i.toNat) &&& 31)
    generalize ((xs i.toNat) &&& 31).toInt = z at hz ⊢
    by_cases ho : z < 0 ∨ 19 < z
    · exact lw_tabOut hz 778 dL_law_32 ho (by decide) (next σ μ hi h)
    · rcases (show z = 0 ∨ z = 1 ∨ z = 2 ∨ z = 3 ∨ z = 4 ∨ z = 5 ∨ z = 6 ∨ z = 7 ∨ z = 8 ∨ z = 9 ∨ z = 10 ∨ z = 11 ∨ z = 12 ∨ z = 13 ∨ z = 14 ∨ z = 15 ∨ z = 16 ∨ z = 17 ∨ z = 18 ∨ z = 19 by omega) with rfl | rfl | rfl | rfl | rfl | rfl | rfl | rfl | rfl | rfl | rfl | rfl | rfl | rfl | rfl | rfl | rfl | rfl | rfl | rfl
      · exact lw_tabIn 128 dL_law_32 hz (by decide) (by decide) (show _ = some 96 by decide) (by decide) (lw_c0 hN h0 h5 hi h next)
      · exact lw_tabIn 141 dL_law_32 hz (by decide) (by decide) (show _ = some 109 by decide) (by decide) (lw_c1 hN h0 h5 hi h next)
      · exact lw_tabIn 194 dL_law_32 hz (by decide) (by decide) (show _ = some 162 by decide) (by decide) (lw_c2 hN h0 h5 hi h next)
      · exact lw_tabIn 267 dL_law_32 hz (by decide) (by decide) (show _ = some 235 by decide) (by decide) (lw_c3 hN h0 h5 hi h next)
      · exact lw_tabIn 310 dL_law_32 hz (by decide) (by decide) (show _ = some 278 by decide) (by decide) (lw_c4 hN h0 h5 hi h next)
      · exact lw_tabIn 353 dL_law_32 hz (by decide) (by decide) (show _ = some 321 by decide) (by decide) (lw_c5 hN h0 h5 hi h next)
      · exact lw_tabIn 386 dL_law_32 hz (by decide) (by decide) (show _ = some 354 by decide) (by decide) (lw_c6 hN h0 h5 hi h next)
      · exact lw_tabIn 399 dL_law_32 hz (by decide) (by decide) (show _ = some 367 by decide) (by decide) (lw_c7 hN h0 h5 hi h next)
      · exact lw_tabIn 432 dL_law_32 hz (by decide) (by decide) (show _ = some 400 by decide) (by decide) (lw_c8 hN h0 h5 hi h next)
      · exact lw_tabIn 475 dL_law_32 hz (by decide) (by decide) (show _ = some 443 by decide) (by decide) (lw_c9 hN h0 h5 hi h next)
      · exact lw_tabIn 508 dL_law_32 hz (by decide) (by decide) (show _ = some 476 by decide) (by decide) (lw_c10 hN h0 h5 hi h next)
      · exact lw_tabIn 531 dL_law_32 hz (by decide) (by decide) (show _ = some 499 by decide) (by decide) (lw_c11 hN h0 h5 hi h next)
      · exact lw_tabIn 554 dL_law_32 hz (by decide) (by decide) (show _ = some 522 by decide) (by decide) (lw_c12 hN h0 h5 hi h next)
      · exact lw_tabIn 577 dL_law_32 hz (by decide) (by decide) (show _ = some 545 by decide) (by decide) (lw_c13 hN h0 h5 hi h next)
      · exact lw_tabIn 630 dL_law_32 hz (by decide) (by decide) (show _ = some 598 by decide) (by decide) (lw_c14 hN h0 h5 hi h next)
      · exact lw_tabIn 653 dL_law_32 hz (by decide) (by decide) (show _ = some 621 by decide) (by decide) (lw_c15 hN h0 h5 hi h next)
      · exact lw_tabIn 696 dL_law_32 hz (by decide) (by decide) (show _ = some 664 by decide) (by decide) (lw_c16 hN h0 h5 hi h next)
      · exact lw_tabIn 709 dL_law_32 hz (by decide) (by decide) (show _ = some 677 by decide) (by decide) (lw_c17 hN h0 h5 hi h next)
      · exact lw_tabIn 742 dL_law_32 hz (by decide) (by decide) (show _ = some 710 by decide) (by decide) (lw_c18 hN h0 h5 hi h next)
      · exact lw_tabIn 755 dL_law_32 hz (by decide) (by decide) (show _ = some 723 by decide) (by decide) (lw_c19 hN h0 h5 hi h next)
theorem nw_fj : fj (nw_s 6) := by
  refine ⟨fun k j hk => ?_, fun c _ _ => rfl⟩
  unfold nw_s
  split
  · rename_i q
    subst q
    simp only [flo, fhi]
    simp
    split
    · rename_i q; subst q; decide
    · split
      · rename_i q; subst q; decide
      · split
        · rename_i q; subst q; decide
        · split <;> omega
  · unfold flo fhi
    repeat' split
    all_goals omega
theorem nw_o {r k j : Nat} (h : k ≠ r) : nw_s r k j = 0 := by
  unfold nw_s
  rw [if_neg h]
theorem nw_rel : rel (nw_s 6) (nw_s 5) := by
  refine ⟨⟨rfl, fun c hc => ⟨?_, fun i hi => ⟨?_, ?_, ?_⟩⟩⟩, ⟨rfl, fun i hi => ⟨?_, ?_⟩⟩, fun i hi => rfl, ⟨rfl, fun k hk => ⟨?_, ?_, ?_, ?_⟩⟩, ⟨rfl, fun a b ha hb => ?_⟩, ⟨rfl, fun k hk => ?_⟩⟩
  case refine_11 =>
    rw [nw_o (by omega)]
    rfl
  case refine_12 =>
    have : (nw_s 6 0 16) = 0 := rfl
    omega
  all_goals (rw [nw_o (by omega), nw_o (by omega)])
section NWL
variable {l : Launch} {D : va_G} {ct : Nat → ClassId} {Γ : fm_G} {M : fm_M} {a0 : Nat} {Q : State → Prop} {n cells slots : Nat} {G : Nat → va_E} {pc : Nat} {L : List (Option Value)} {st : List Value}
theorem nw_ast {i : Fin 4} {a : Nat} (hd : decode M.1 pc = .ok (.astore_n i, 1)) (hi : i.val < L.length) (hc : ∀ j o, j + 1 = i.val → L[j]? = some o → fm_c1 o = true) (k : nw_W l D ct Γ M a0 Q n cells slots G (pc + 1) (L.set i.val (some (.ref a))) st) : nw_W l D ct Γ M a0 Q n cells slots G pc L (.ref a :: st) := by
  intro C hL hz H locs ls hP hS hH hl
  obtain ⟨hx, hb, -⟩ := id C
  refine lv_astore_n (i := i) hx hb hd rfl hl.has hi rfl (fun ls2 hl2 => ?_)
  exact k C (by rw [List.length_set]; exact hL) hz H locs ls2 hP hS hH (fm_L.put hi hc hl2)
theorem nw_ist {i : Fin 4} {z : Int} (hd : decode M.1 pc = .ok (.istore_n i, 1)) (hi : i.val < L.length) (hc : ∀ j o, j + 1 = i.val → L[j]? = some o → fm_c1 o = true) (k : nw_W l D ct Γ M a0 Q n cells slots G (pc + 1) (L.set i.val (some (fm_I z))) st) : nw_W l D ct Γ M a0 Q n cells slots G pc L (fm_I z :: st) := by
  intro C hL hz H locs ls hP hS hH hl
  obtain ⟨hx, hb, -⟩ := id C
  refine lv_istore_n (i := i) hx hb hd rfl hl.has hi rfl (fun ls2 hl2 => ?_)
  exact k C (by rw [List.length_set]; exact hL) hz H locs ls2 hP hS hH (fm_L.put hi hc hl2)
theorem nw_c1 {L : List (Option Value)} {i : Nat} (h : ∀ o ∈ L, fm_c1 o = true) : ∀ (j : Nat) (o : Option Value), j + 1 = i → L[j]? = some o → fm_c1 o = true := fun j o _ ho => h o (List.mem_of_getElem? ho)
end NWL
theorem lw_eqi {args : Array Value} {s : State} {tm : Term} {z : Int32} (h : (Cond.eq tm (.int z)).before args s = true) : tm.eval args s none [] s = some (.int z) := by
  cases hv : tm.eval args s none [] s with
  | none => simp [Cond.before, Cond.holds, Cond.value, hv] at h
  | some w =>
    have hz : (Term.int z).eval args s none [] s = some (.int z) := rfl
    simp only [Cond.before, Cond.holds, Cond.value, hv, hz] at h
    cases w <;> simp_all
theorem lw_top {args : Array Value} {s : State} (hts : ∀ w ∈ lw_tbl, w.before args s = true) (hg : (Jvm.Cond.and given_1 narrow_1).before args s = true) : fm_S (fun q => s.heap.size ≤ q) s := by
  have hs := flat_of_before _ hg
  have ha : (Cond.arrayOf (.static "FilmWhole" "TOP_OF_RULE" "[I") .int).before args s = true := hs _ (by decide +kernel)
  have hl := lw_eqi (hs (Cond.eq (.length (.static "FilmWhole" "TOP_OF_RULE" "[I")) (.int 4)) (by decide +kernel))
  have h0 := lw_eqi (hs (Cond.eq (.elem (.static "FilmWhole" "TOP_OF_RULE" "[I") (.int 0)) (.int 5)) (by decide +kernel))
  have h1 := lw_eqi (hs (Cond.eq (.elem (.static "FilmWhole" "TOP_OF_RULE" "[I") (.int 1)) (.int 100)) (by decide +kernel))
  have h2 := lw_eqi (hs (Cond.eq (.elem (.static "FilmWhole" "TOP_OF_RULE" "[I") (.int 2)) (.int 100)) (by decide +kernel))
  have h3 := lw_eqi (hs (Cond.eq (.elem (.static "FilmWhole" "TOP_OF_RULE" "[I") (.int 3)) (.int 100)) (by decide +kernel))
  obtain ⟨t, e1, e2⟩ := va_Tof (N := 4) (f := fm_tor) (A := fun q => s.heap.size ≤ q) (by decide) ha hl (fun j hj => by
    rcases (show j = 0 ∨ j = 1 ∨ j = 2 ∨ j = 3 by omega) with rfl | rfl | rfl | rfl
    · exact h0
    · exact h1
    · exact h2
    · exact h3) (fun a ha => Nat.not_le.mpr ha)
  exact ⟨t, va_Zof (hts _ (List.mem_of_getElem? (i := 354) (by decide +kernel))) (hts _ (List.mem_of_getElem? (i := 43) (by decide +kernel))) e1 (fun a ha => Nat.not_le.mpr ha), e2⟩
theorem lw_K {args : Array Value} {s : State} (hts : ∀ w ∈ lw_tbl, w.before args s = true) : ∃ (D : va_G) (ct : Nat → ClassId), va_K D vwCl (fm_tys ct) s := by
  have htf : ∀ w ∈ fm_T, w.before args s = true := fun w hw => hts w (List.mem_filter.mp hw).1
  obtain ⟨c0, i0, h0⟩ := u_known (C := RX0) (T := TX0) (N := 5) (n := 5) htf us_X0 (htf _ nq_in_X0)
  obtain ⟨c1, i1, h1⟩ := u_known (C := RX1) (T := TX1) (N := 2) (n := 2) htf us_X1 (htf _ nq_in_X1)
  obtain ⟨c2, i2, h2⟩ := u_known (C := RX2) (T := TX2) (N := 5) (n := 5) htf us_X2 (htf _ nq_in_X2)
  obtain ⟨c3, i3, h3⟩ := u_known (C := RX3) (T := TX3) (N := 4) (n := 4) htf us_X3 (htf _ nq_in_X3)
  obtain ⟨c4, i4, h4⟩ := u_known (C := RX4) (T := TX4) (N := 3) (n := 3) htf us_X4 (htf _ nq_in_X4)
  obtain ⟨c5, i5, h5⟩ := u_known (C := RX5) (T := TX5) (N := 8) (n := 8) htf us_X5 (htf _ nq_in_X5)
  obtain ⟨c6, i6, h6⟩ := u_known (C := RX6) (T := TX6) (N := 4) (n := 4) htf us_X6 (htf _ nq_in_X6)
  obtain ⟨c7, i7, h7⟩ := u_known (C := RX8) (T := TX8) (N := 9) (n := 9) htf us_X8 (htf _ nq_in_X8)
  obtain ⟨c8, i8, h8⟩ := u_known (C := RX9) (T := TX9) (N := 25) (n := 25) htf us_X9 (htf _ nq_in_X9)
  obtain ⟨a0, b0, d0, e0, f0, g0⟩ := Cond.arrayClass_spec (htf _ nq_ai)
  obtain ⟨d1, a1, b1, f1, -, g1, j1, e1⟩ := Cond.arrayOver_spec (n := RX3) (hts (Cond.arrayOver (.object RX3)) (List.mem_of_getElem? (i := 65) (by decide +kernel)))
  obtain ⟨d2, a2, b2, f2, g2, j2, e2⟩ := Cond.arrayOver_specA (hts (Cond.arrayOver (.array .int)) (List.mem_of_getElem? (i := 95) (by decide +kernel)))
  refine ⟨(fun k => match k with | 0 => c0 | 1 => c1 | 2 => c2 | 3 => c3 | 4 => c4 | 5 => c5 | 6 => c6 | 7 => c7 | _ => c8, fun k => match k with | 0 => i0 | 1 => i1 | 2 => i2 | 3 => i3 | 4 => i4 | 5 => i5 | 6 => i6 | 7 => i7 | _ => i8), fun k => match k with | 0 => a0 | 1 => a1 | _ => a2, ?_, ?_⟩
  · intro k q hq
    match k, hq with
    | 0, hq => cases hq; exact h0
    | 1, hq => cases hq; exact h1
    | 2, hq => cases hq; exact h2
    | 3, hq => cases hq; exact h3
    | 4, hq => cases hq; exact h4
    | 5, hq => cases hq; exact h5
    | 6, hq => cases hq; exact h6
    | 7, hq => cases hq; exact h7
    | 8, hq => cases hq; exact h8
    | k + 9, hq => simp [vwCl] at hq
  · intro k q hq
    match k, hq with
    | 0, hq => cases hq; exact ⟨fun n z => ⟨fun k h => (by cases h), b0, f0, d0, g0⟩, e0⟩
    | 1, hq => cases hq; exact ⟨fun n z => ⟨fun k h => (by cases h), b1, g1, d1, j1⟩, b1, d1, g1, j1, f1, e1⟩
    | 2, hq => cases hq; exact ⟨fun n z => ⟨fun k h => (by cases h), b2, g2, d2, j2⟩, e2⟩
    | k + 3, hq => simp [fm_tys] at hq
theorem lw_N {args : Array Value} {s : State} (hts : ∀ w ∈ lw_tbl, w.before args s = true) : nw_N s :=
  ⟨va_AO.of (hts _ (List.mem_of_getElem? (i := 65) (by decide +kernel))), nw_ao rfl (hts (Cond.arrayOver (.array .int)) (List.mem_of_getElem? (i := 95) (by decide +kernel))), va_Nw.of rfl (hts _ (List.mem_of_getElem? (i := 68) (by decide +kernel))), va_Nw.of rfl (hts _ (List.mem_of_getElem? (i := 90) (by decide +kernel))), va_Nw.of rfl (hts _ (List.mem_of_getElem? (i := 107) (by decide +kernel))), va_Nw.of rfl (hts _ (List.mem_of_getElem? (i := 130) (by decide +kernel))), va_Nw.of rfl (hts _ (List.mem_of_getElem? (i := 155) (by decide +kernel))), va_Nw.of rfl (hts _ (List.mem_of_getElem? (i := 177) (by decide +kernel)))⟩
theorem nq_cl_L_7 : Cond.classLink RL 7 RX8 ∈ fm_T := fm_mem 56 (by decide +kernel) rfl
theorem nq_cl_L_10 : Cond.classLink RL 10 RX9 ∈ fm_T := fm_mem 576 (by decide +kernel) rfl
theorem nq_ml_L_9 : Cond.methodLink RL 9 yX8_init ∈ fm_T := fm_mem 58 (by decide +kernel) rfl
theorem nq_ml_L_12 : Cond.methodLink RL 12 yX9_init ∈ fm_T := fm_mem 578 (by decide +kernel) rfl
theorem lw_cut {D : va_G} {ct : Nat → ClassId} {a0 : Nat} {G0 : Nat → va_E} {e1 e2 : va_E} {H : Heap} (hP : va_P D vwCl (nw_ws a0 166 (nw_cat (nw_up (nw_cat (nw_up G0 0 e1) 0 (nwF_X8 ct (a0 + 0))) 144 e2) 144 (nwF_X9 ct (a0 + 144)))) H) : va_P D vwCl (fm_ws kc ct (la1 a0) (nw_s 5)) H ∧ va_P D vwCl (fm_ws km ct (la2 a0) (nw_s 6)) H := by
  refine ⟨fun k q hk => ?_, fun k q hk => ?_⟩
  · obtain ⟨h1, rfl⟩ := fm_ws_some hk
    obtain ⟨k1, k2⟩ := nw_ko k h1
    have h := hP (nw_off k) _ (nw_at (by omega))
    have e : nw_cat (nw_up (nw_cat (nw_up G0 0 e1) 0 (nwF_X8 ct (a0 + 0))) 144 e2) 144 (nwF_X9 ct (a0 + 144)) (nw_off k) = fm_e kc ct (la1 a0) (nw_s 5) k := by
      unfold nw_cat nw_up nwF_X8
      rw [if_pos k2, if_neg (by omega)]
      show (if nw_off k < 0 then _ else fm_e kc ct (fun k => a0 + 0 + nw_off k) (nw_s 5) (nw_kof (nw_off k - 0))) = _
      rw [if_neg (Nat.not_lt_zero _), Nat.sub_zero, k1]
      rfl
    rw [e] at h
    exact h
  · obtain ⟨h1, rfl⟩ := fm_ws_some hk
    have h9 : k < 22 := h1
    have h := hP (144 + k) _ (nw_at (by omega))
    have e : nw_cat (nw_up (nw_cat (nw_up G0 0 e1) 0 (nwF_X8 ct (a0 + 0))) 144 e2) 144 (nwF_X9 ct (a0 + 144)) (144 + k) = fm_e km ct (la2 a0) (nw_s 6) k := by
      unfold nw_cat nwF_X9
      rw [if_neg (by omega), Nat.add_sub_cancel_left]
      rfl
    rw [e, ← Nat.add_assoc] at h
    exact h
set_option maxRecDepth 20000 in
set_option maxHeartbeats 4000000 in
theorem whole_start {p : Program} {e : Env} {s : State} {m : MethodId} {below : List Frame} {meth : Method} {c : Code} (l : Launch) {b L : Nat} {xs : Nat → Int32} (hL : L ≤ 2560) (C0 : lw_At p s m meth c b L xs) : W p l e room_1 s m #[Value.ref b] below meth c s.heap [] 0 0 (lw_Z below #[Value.ref b] s) (entryFrame m ([Value.ref b] : List Value).toArray 4) := by
  obtain ⟨hx, hb, hr, hml, hown, hts, hX, hbl, hlocks, hgv⟩ := id C0
  have htf : ∀ w ∈ fm_T, w.before #[Value.ref b] s = true := fun w hw => hts w (List.mem_filter.mp hw).1
  obtain ⟨D, ct, hK⟩ := lw_K hts
  have hZ := lw_top hts hgv
  have hNN := lw_N hts
  have hl := lv_entry ([.ref b]) (n := 4) (Nat.le_of_ble_eq_true rfl)
  rw [lg_entry_eq]
  have hn : nw_W l D ct (p, e, s, m, #[Value.ref b], below, meth, c) (cL_law, RL, room_1, 4, ret) s.heap.size (lw_Z below #[Value.ref b] s) 0 0 0 (fun _ => .inr (7, [])) 0 [some (.ref b), none, none, none] [] := by
    refine nw_new (ci := 7) (fs := [.null, fm_I 0, .null, .null, .null, .null, .null, .null, .null]) tyX8 1 1 9 rfl rfl rfl dL_law_0 nq_cl_L_7 nq_in_X8 nq_it_X8 us_X8 tyX8_ok rfl nq_d_X8 (Nat.le_of_ble_eq_true rfl) (Nat.le_of_ble_eq_true rfl) ?_
    refine nw_dup dL_law_3 ?_
    refine nw_callP (i0 := 0) (nF := 144) (As := []) (rest := [.ref (s.heap.size + 0)]) (F := nwF_X8 ct (s.heap.size + 0)) 144 144 3552 rfl rfl rfl rfl rfl dL_law_4 k_X8_init rfl nq_ml_L_9 nq_y_X8 rfl (by decide) (Nat.le_of_ble_eq_true rfl) (Nat.le_of_ble_eq_true rfl) rfl (Nat.le_of_ble_eq_true rfl) ?_
    refine nw_ast (i := 1) dL_law_7 (Nat.le_of_ble_eq_true rfl) (nw_c1 (by intro o ho; simp at ho; rcases ho with rfl | rfl <;> rfl)) ?_
    refine nw_new (ci := 8) (fs := [fm_I 0, .null, .null, .null, .null, .null, .null, fm_I 0, .null, .null, .null, .null, fm_I 0, .null, .null, .null, fm_I 0, .null, .null, .null, .null, .null, .null, .null, .null]) tyX9 145 145 3577 rfl rfl rfl dL_law_8 nq_cl_L_10 nq_in_X9 nq_it_X9 us_X9 tyX9_ok rfl nq_d_X9 (Nat.le_of_ble_eq_true rfl) (Nat.le_of_ble_eq_true rfl) ?_
    refine nw_dup dL_law_11 ?_
    refine nw_callP (i0 := 144) (nF := 22) (As := []) (rest := [.ref (s.heap.size + 144)]) (F := nwF_X9 ct (s.heap.size + 144)) 166 166 6843 rfl rfl rfl rfl rfl dL_law_12 k_X9_init rfl nq_ml_L_12 nq_y_X9 rfl (by decide) (Nat.le_of_ble_eq_true rfl) (Nat.le_of_ble_eq_true rfl) rfl (Nat.le_of_ble_eq_true rfl) ?_
    refine nw_ast (i := 2) dL_law_15 (Nat.le_of_ble_eq_true rfl) (nw_c1 (by intro o ho; simp at ho; rcases ho with rfl | rfl | rfl <;> rfl)) ?_
    refine nw_iconst dL_law_16 ?_
    refine nw_ist (i := 3) dL_law_17 (Nat.le_of_ble_eq_true rfl) (nw_c1 (by intro o ho; simp at ho; rcases ho with rfl | rfl | rfl | rfl <;> rfl)) ?_
    intro C1 hL1 hz1 H locs ls hP hS hH hl1
    obtain ⟨hPc, hPm⟩ := lw_cut hP
    refine W.widen (k := 600000) (n := 7302250) (by decide) (by decide) ?_
    exact lw_loop hL hr hlocks 513 0 (nw_s 5) (nw_s 6) (by decide) (by decide) (by omega) nw_fj nw_rel ⟨hx, hb, hml, hown, htf, hK, hX, hbl, hZ⟩ rfl H locs ls hPc hPm hS hl1
  refine hn ⟨hx, hb, hml, hown, htf, hK, hNN, Nat.le_refl _⟩ rfl rfl s.heap [] _ (fun k q hk => by simp [nw_ws] at hk) va_S.rf rfl ⟨hl.1, hl.2.1, fun i v hv => ?_⟩
  have := fm_in_at [.ref b] 4 0 i v hv
  rw [Nat.zero_add] at this
  exact hl.2.2 _ this
