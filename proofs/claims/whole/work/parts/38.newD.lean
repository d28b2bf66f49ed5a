/-! the film's constructor; the model's -/
def nw_s (r : Nat) : fm_Mem := fun k j => if k = r then (if j = 1 then 20 else if j = 2 then 4 else if j = 3 then 30 else 0) else 0
def nw_off (k : Nat) : Nat := if k < 8 then k else if k = 8 then 49 else if k = 9 then 94 else if k = 10 then 95 else if k = 11 then 102 else if k = 12 then 143 else if k < 18 then 50 + (k - 13) else if k < 20 then 55 + (k - 18) else if k < 23 then 63 + (k - 20) else if k < 27 then 66 + (k - 23) else if k < 33 then 70 + 4 * (k - 27) else if k < 39 then 71 + 4 * (k - 33) else if k < 45 then 72 + 4 * (k - 39) else if k < 51 then 73 + 4 * (k - 45) else if k < 57 then 57 + (k - 51) else if k < 63 then 96 + (k - 57) else if k < 104 then 8 + (k - 63) else 103 + (k - 104)
def nw_kof (i : Nat) : Nat := if i < 8 then i else if i < 49 then 63 + (i - 8) else if i = 49 then 8 else if i < 55 then 13 + (i - 50) else if i < 57 then 18 + (i - 55) else if i < 63 then 51 + (i - 57) else if i < 66 then 20 + (i - 63) else if i < 70 then 23 + (i - 66) else if i < 94 then 27 + (i - 70) / 4 + 6 * ((i - 70) % 4) else if i < 96 then 9 + (i - 94) else if i < 102 then 57 + (i - 96) else if i = 102 then 11 else if i < 143 then 104 + (i - 103) else 12
theorem nw_ko : ∀ k, k < 144 → nw_kof (nw_off k) = k ∧ nw_off k < 144 := by decide +kernel
theorem nw_o27 : ∀ j, j < 6 → nw_off (27 + j) = 70 + 4 * j := by decide +kernel
theorem nw_o63 : ∀ j, j < 41 → nw_off (63 + j) = 8 + j := by decide +kernel
theorem nw_o57 : ∀ j, j < 6 → nw_off (57 + j) = 96 + j := by decide +kernel
theorem nw_o104 : ∀ j, j < 40 → nw_off (104 + j) = 103 + j := by decide +kernel
theorem nw_o51 : ∀ j, j < 6 → nw_off (51 + j) = 57 + j := by decide +kernel
def nwF_X8 (ct : Nat → ClassId) (b : Nat) : Nat → va_E := fun i => fm_e kc ct (fun k => b + nw_off k) (nw_s 5) (nw_kof i)
def nwF_X9 (ct : Nat → ClassId) (b : Nat) : Nat → va_E := fun i => fm_e km ct (fun k => b + k) (nw_s 6) i
theorem nw_ra {D : va_G} {x : Nat} {c : ClassId} {N : Nat} {f g : Nat → Option Nat} {H : Heap} (e : ∀ j, j < N → f j = g j) (h : va_at D vwCl (x, .inl (c, N, .inr (.inr (.inr (.inr f))))) H) : va_at D vwCl (x, .inl (c, N, .inr (.inr (.inr (.inr g))))) H := by
  show H[x]? = some (arrV c N (fun j => va_rf (g j)))
  rw [← nw_arr (fun j hj => congrArg va_rf (e j hj))]
  exact h
theorem nw_ia {D : va_G} {x : Nat} {c : ClassId} {N : Nat} {f g : Nat → Int32} {H : Heap} (e : ∀ j, j < N → f j = g j) (h : va_at D vwCl (x, .inl (c, N, .inl f)) H) : va_at D vwCl (x, .inl (c, N, .inl g)) H := by
  show H[x]? = some (arrV c N (fun j => .int (g j)))
  rw [← nw_arr (fun j hj => congrArg Value.int (e j hj))]
  exact h
theorem nq_cl_X8_9 : Cond.classLink RX8 9 RX3 ∈ fm_T := fm_mem 64 (by decide +kernel) rfl
theorem nq_cl_X8_15 : Cond.classLink RX8 15 RX4 ∈ fm_T := fm_mem 66 (by decide +kernel) rfl
theorem nq_cl_X8_26 : Cond.classLink RX8 26 RX1 ∈ fm_T := fm_mem 88 (by decide +kernel) rfl
theorem nq_cl_X8_33 : Cond.classLink RX8 33 RX2 ∈ fm_T := fm_mem 105 (by decide +kernel) rfl
theorem nq_cl_X8_40 : Cond.classLink RX8 40 RX0 ∈ fm_T := fm_mem 128 (by decide +kernel) rfl
theorem nq_cl_X8_47 : Cond.classLink RX8 47 RX6 ∈ fm_T := fm_mem 153 (by decide +kernel) rfl
theorem nq_cl_X8_55 : Cond.classLink RX8 55 RX5 ∈ fm_T := fm_mem 202 (by decide +kernel) rfl
theorem nq_57 : Cond.methodLink RX8 57 yX5_init ∈ fm_T := fm_mem 204 (by decide +kernel) rfl
def nwG_X8 (ct : Nat → ClassId) (b : Nat) : Nat → va_E := nw_up (nw_cat (nw_up (nw_up (nw_cat (nw_up (nw_up (nw_cat (nw_up (nw_up (nw_cat (nw_up (nw_up (nw_cat (nw_up (nw_up (nw_cat (nw_up (nw_up (nw_cat (nw_up (nw_up (nw_cat (nw_up (nw_up (nw_cat (nw_up (nw_up (nw_cat (nw_up (nw_up (nw_cat (nw_up (nw_up (nw_up (nw_up (nw_up (nw_up (nw_up (nw_up (nw_cat (nw_up (nw_up (nw_up (fun _ => .inr (7, [.null, fm_I 0, .null, .null, .null, .null, .null, .null, .null])) 1 (.inl (ct 1, 6, .inr (.inr (.inr (.inr (fun _ => none))))))) 0 (.inr (7, [.ref (b + 1), fm_I 0, .null, .null, .null, .null, .null, .null, .null]))) 2 (.inr (4, [.null, .null, fm_I 0]))) 2 (nwF_X4 ct (b + 2))) 0 (.inr (7, [.ref (b + 1), fm_I 0, .ref (b + 2), .null, .null, .null, .null, .null, .null]))) 5 (.inl (ct 0, 4, .inl (fun _ => Int32.ofInt 0)))) 5 (.inl (ct 0, 4, .inl (upd (fun _ => Int32.ofInt 0) 0 (Int32.ofInt 0))))) 5 (.inl (ct 0, 4, .inl (upd (upd (fun _ => Int32.ofInt 0) 0 (Int32.ofInt 0)) 1 (Int32.ofInt 20))))) 5 (.inl (ct 0, 4, .inl (upd (upd (upd (fun _ => Int32.ofInt 0) 0 (Int32.ofInt 0)) 1 (Int32.ofInt 20)) 2 (Int32.ofInt 4))))) 5 (.inl (ct 0, 4, .inl (upd (upd (upd (upd (fun _ => Int32.ofInt 0) 0 (Int32.ofInt 0)) 1 (Int32.ofInt 20)) 2 (Int32.ofInt 4)) 3 (Int32.ofInt 30))))) 0 (.inr (7, [.ref (b + 1), fm_I 0, .ref (b + 2), .ref (b + 5), .null, .null, .null, .null, .null]))) 6 (.inr (1, [.null, .null]))) 6 (nwF_X1 ct (b + 6))) 0 (.inr (7, [.ref (b + 1), fm_I 0, .ref (b + 2), .ref (b + 5), .ref (b + 6), .null, .null, .null, .null]))) 50 (.inr (2, [.null, .null, .null, .null, fm_I 0]))) 50 (nwF_X2 ct (b + 50))) 0 (.inr (7, [.ref (b + 1), fm_I 0, .ref (b + 2), .ref (b + 5), .ref (b + 6), .null, .ref (b + 50), .null, .null]))) 55 (.inr (0, [.null, .null, .null, .null, fm_I 0]))) 55 (nwF_X0 ct (b + 55))) 0 (.inr (7, [.ref (b + 1), fm_I 0, .ref (b + 2), .ref (b + 5), .ref (b + 6), .null, .ref (b + 50), .ref (b + 55), .null]))) 66 (.inr (6, [.null, .null, .null, fm_I 0]))) 66 (nwF_X6 ct (b + 66))) 0 (.inr (7, [.ref (b + 1), fm_I 0, .ref (b + 2), .ref (b + 5), .ref (b + 6), .null, .ref (b + 50), .ref (b + 55), .ref (b + 66)]))) 70 (.inr (3, [.null, .null, .null, fm_I 0]))) 70 (nwF_X3 ct (b + 70))) 1 (.inl (ct 1, 6, .inr (.inr (.inr (.inr (va_up (fun _ => none) 0 (some (b + 70))))))))) 74 (.inr (3, [.null, .null, .null, fm_I 0]))) 74 (nwF_X3 ct (b + 74))) 1 (.inl (ct 1, 6, .inr (.inr (.inr (.inr (va_up (va_up (fun _ => none) 0 (some (b + 70))) 1 (some (b + 74))))))))) 78 (.inr (3, [.null, .null, .null, fm_I 0]))) 78 (nwF_X3 ct (b + 78))) 1 (.inl (ct 1, 6, .inr (.inr (.inr (.inr (va_up (va_up (va_up (fun _ => none) 0 (some (b + 70))) 1 (some (b + 74))) 2 (some (b + 78))))))))) 82 (.inr (3, [.null, .null, .null, fm_I 0]))) 82 (nwF_X3 ct (b + 82))) 1 (.inl (ct 1, 6, .inr (.inr (.inr (.inr (va_up (va_up (va_up (va_up (fun _ => none) 0 (some (b + 70))) 1 (some (b + 74))) 2 (some (b + 78))) 3 (some (b + 82))))))))) 86 (.inr (3, [.null, .null, .null, fm_I 0]))) 86 (nwF_X3 ct (b + 86))) 1 (.inl (ct 1, 6, .inr (.inr (.inr (.inr (va_up (va_up (va_up (va_up (va_up (fun _ => none) 0 (some (b + 70))) 1 (some (b + 74))) 2 (some (b + 78))) 3 (some (b + 82))) 4 (some (b + 86))))))))) 90 (.inr (3, [.null, .null, .null, fm_I 0]))) 90 (nwF_X3 ct (b + 90))) 1 (.inl (ct 1, 6, .inr (.inr (.inr (.inr (va_up (va_up (va_up (va_up (va_up (va_up (fun _ => none) 0 (some (b + 70))) 1 (some (b + 74))) 2 (some (b + 78))) 3 (some (b + 82))) 4 (some (b + 86))) 5 (some (b + 90))))))))) 94 (.inr (5, [.null, .null, .null, .null, .null, .null, .null, fm_I 0]))) 94 (nwF_X5 ct (b + 94) (b + 2) (b + 1) (b + 5) (b + 6))) 0 (.inr (7, [.ref (b + 1), fm_I 0, .ref (b + 2), .ref (b + 5), .ref (b + 6), .ref (b + 94), .ref (b + 50), .ref (b + 55), .ref (b + 66)]))
theorem nwE_X8_0 {D : va_G} {ct : Nat → ClassId} {b : Nat} {H : Heap} (h : va_at D vwCl (b + 0, nwG_X8 ct b 0) H) : va_at D vwCl (b + 0, nwF_X8 ct b 0) H := h
theorem nwE_X8_1 {D : va_G} {ct : Nat → ClassId} {b : Nat} {H : Heap} (h : va_at D vwCl (b + 1, nwG_X8 ct b 1) H) : va_at D vwCl (b + 1, nwF_X8 ct b 1) H := nw_ra (fun j hj => by rcases (show j = 0 ∨ j = 1 ∨ j = 2 ∨ j = 3 ∨ j = 4 ∨ j = 5 by omega) with rfl | rfl | rfl | rfl | rfl | rfl <;> rfl) h
theorem nwE_X8_2 {D : va_G} {ct : Nat → ClassId} {b : Nat} {H : Heap} (h : va_at D vwCl (b + 2, nwG_X8 ct b 2) H) : va_at D vwCl (b + 2, nwF_X8 ct b 2) H := h
theorem nwE_X8_3 {D : va_G} {ct : Nat → ClassId} {b : Nat} {H : Heap} (h : va_at D vwCl (b + 3, nwG_X8 ct b 3) H) : va_at D vwCl (b + 3, nwF_X8 ct b 3) H := h
theorem nwE_X8_4 {D : va_G} {ct : Nat → ClassId} {b : Nat} {H : Heap} (h : va_at D vwCl (b + 4, nwG_X8 ct b 4) H) : va_at D vwCl (b + 4, nwF_X8 ct b 4) H := h
theorem nwE_X8_5 {D : va_G} {ct : Nat → ClassId} {b : Nat} {H : Heap} (h : va_at D vwCl (b + 5, nwG_X8 ct b 5) H) : va_at D vwCl (b + 5, nwF_X8 ct b 5) H := nw_ia (fun j hj => by rcases (show j = 0 ∨ j = 1 ∨ j = 2 ∨ j = 3 by omega) with rfl | rfl | rfl | rfl <;> rfl) h
theorem nwE_X8_6 {D : va_G} {ct : Nat → ClassId} {b : Nat} {H : Heap} (h : va_at D vwCl (b + 6, nwG_X8 ct b 6) H) : va_at D vwCl (b + 6, nwF_X8 ct b 6) H := h
theorem nwE_X8_7 {D : va_G} {ct : Nat → ClassId} {b : Nat} {H : Heap} (h : va_at D vwCl (b + 7, nwG_X8 ct b 7) H) : va_at D vwCl (b + 7, nwF_X8 ct b 7) H := nw_ra (fun j hj => by show some (b + 6 + (1 + 1 + j)) = some (b + nw_off (63 + j)); rw [nw_o63 j hj]; congr 1; omega) h
theorem nwE_X8_8 {D : va_G} {ct : Nat → ClassId} {b : Nat} {H : Heap} (h : va_at D vwCl (b + 8, nwG_X8 ct b 8) H) : va_at D vwCl (b + 8, nwF_X8 ct b 8) H := h
theorem nwE_X8_9 {D : va_G} {ct : Nat → ClassId} {b : Nat} {H : Heap} (h : va_at D vwCl (b + 9, nwG_X8 ct b 9) H) : va_at D vwCl (b + 9, nwF_X8 ct b 9) H := h
theorem nwE_X8_10 {D : va_G} {ct : Nat → ClassId} {b : Nat} {H : Heap} (h : va_at D vwCl (b + 10, nwG_X8 ct b 10) H) : va_at D vwCl (b + 10, nwF_X8 ct b 10) H := h
theorem nwE_X8_11 {D : va_G} {ct : Nat → ClassId} {b : Nat} {H : Heap} (h : va_at D vwCl (b + 11, nwG_X8 ct b 11) H) : va_at D vwCl (b + 11, nwF_X8 ct b 11) H := h
theorem nwE_X8_12 {D : va_G} {ct : Nat → ClassId} {b : Nat} {H : Heap} (h : va_at D vwCl (b + 12, nwG_X8 ct b 12) H) : va_at D vwCl (b + 12, nwF_X8 ct b 12) H := h
theorem nwE_X8_13 {D : va_G} {ct : Nat → ClassId} {b : Nat} {H : Heap} (h : va_at D vwCl (b + 13, nwG_X8 ct b 13) H) : va_at D vwCl (b + 13, nwF_X8 ct b 13) H := h
theorem nwE_X8_14 {D : va_G} {ct : Nat → ClassId} {b : Nat} {H : Heap} (h : va_at D vwCl (b + 14, nwG_X8 ct b 14) H) : va_at D vwCl (b + 14, nwF_X8 ct b 14) H := h
theorem nwE_X8_15 {D : va_G} {ct : Nat → ClassId} {b : Nat} {H : Heap} (h : va_at D vwCl (b + 15, nwG_X8 ct b 15) H) : va_at D vwCl (b + 15, nwF_X8 ct b 15) H := h
theorem nwE_X8_16 {D : va_G} {ct : Nat → ClassId} {b : Nat} {H : Heap} (h : va_at D vwCl (b + 16, nwG_X8 ct b 16) H) : va_at D vwCl (b + 16, nwF_X8 ct b 16) H := h
theorem nwE_X8_17 {D : va_G} {ct : Nat → ClassId} {b : Nat} {H : Heap} (h : va_at D vwCl (b + 17, nwG_X8 ct b 17) H) : va_at D vwCl (b + 17, nwF_X8 ct b 17) H := h
theorem nwE_X8_18 {D : va_G} {ct : Nat → ClassId} {b : Nat} {H : Heap} (h : va_at D vwCl (b + 18, nwG_X8 ct b 18) H) : va_at D vwCl (b + 18, nwF_X8 ct b 18) H := h
theorem nwE_X8_19 {D : va_G} {ct : Nat → ClassId} {b : Nat} {H : Heap} (h : va_at D vwCl (b + 19, nwG_X8 ct b 19) H) : va_at D vwCl (b + 19, nwF_X8 ct b 19) H := h
theorem nwE_X8_20 {D : va_G} {ct : Nat → ClassId} {b : Nat} {H : Heap} (h : va_at D vwCl (b + 20, nwG_X8 ct b 20) H) : va_at D vwCl (b + 20, nwF_X8 ct b 20) H := h
theorem nwE_X8_21 {D : va_G} {ct : Nat → ClassId} {b : Nat} {H : Heap} (h : va_at D vwCl (b + 21, nwG_X8 ct b 21) H) : va_at D vwCl (b + 21, nwF_X8 ct b 21) H := h
theorem nwE_X8_22 {D : va_G} {ct : Nat → ClassId} {b : Nat} {H : Heap} (h : va_at D vwCl (b + 22, nwG_X8 ct b 22) H) : va_at D vwCl (b + 22, nwF_X8 ct b 22) H := h
theorem nwE_X8_23 {D : va_G} {ct : Nat → ClassId} {b : Nat} {H : Heap} (h : va_at D vwCl (b + 23, nwG_X8 ct b 23) H) : va_at D vwCl (b + 23, nwF_X8 ct b 23) H := h
theorem nwE_X8_24 {D : va_G} {ct : Nat → ClassId} {b : Nat} {H : Heap} (h : va_at D vwCl (b + 24, nwG_X8 ct b 24) H) : va_at D vwCl (b + 24, nwF_X8 ct b 24) H := h
theorem nwE_X8_25 {D : va_G} {ct : Nat → ClassId} {b : Nat} {H : Heap} (h : va_at D vwCl (b + 25, nwG_X8 ct b 25) H) : va_at D vwCl (b + 25, nwF_X8 ct b 25) H := h
theorem nwE_X8_26 {D : va_G} {ct : Nat → ClassId} {b : Nat} {H : Heap} (h : va_at D vwCl (b + 26, nwG_X8 ct b 26) H) : va_at D vwCl (b + 26, nwF_X8 ct b 26) H := h
theorem nwE_X8_27 {D : va_G} {ct : Nat → ClassId} {b : Nat} {H : Heap} (h : va_at D vwCl (b + 27, nwG_X8 ct b 27) H) : va_at D vwCl (b + 27, nwF_X8 ct b 27) H := h
theorem nwE_X8_28 {D : va_G} {ct : Nat → ClassId} {b : Nat} {H : Heap} (h : va_at D vwCl (b + 28, nwG_X8 ct b 28) H) : va_at D vwCl (b + 28, nwF_X8 ct b 28) H := h
theorem nwE_X8_29 {D : va_G} {ct : Nat → ClassId} {b : Nat} {H : Heap} (h : va_at D vwCl (b + 29, nwG_X8 ct b 29) H) : va_at D vwCl (b + 29, nwF_X8 ct b 29) H := h
theorem nwE_X8_30 {D : va_G} {ct : Nat → ClassId} {b : Nat} {H : Heap} (h : va_at D vwCl (b + 30, nwG_X8 ct b 30) H) : va_at D vwCl (b + 30, nwF_X8 ct b 30) H := h
theorem nwE_X8_31 {D : va_G} {ct : Nat → ClassId} {b : Nat} {H : Heap} (h : va_at D vwCl (b + 31, nwG_X8 ct b 31) H) : va_at D vwCl (b + 31, nwF_X8 ct b 31) H := h
theorem nwE_X8_32 {D : va_G} {ct : Nat → ClassId} {b : Nat} {H : Heap} (h : va_at D vwCl (b + 32, nwG_X8 ct b 32) H) : va_at D vwCl (b + 32, nwF_X8 ct b 32) H := h
theorem nwE_X8_33 {D : va_G} {ct : Nat → ClassId} {b : Nat} {H : Heap} (h : va_at D vwCl (b + 33, nwG_X8 ct b 33) H) : va_at D vwCl (b + 33, nwF_X8 ct b 33) H := h
theorem nwE_X8_34 {D : va_G} {ct : Nat → ClassId} {b : Nat} {H : Heap} (h : va_at D vwCl (b + 34, nwG_X8 ct b 34) H) : va_at D vwCl (b + 34, nwF_X8 ct b 34) H := h
theorem nwE_X8_35 {D : va_G} {ct : Nat → ClassId} {b : Nat} {H : Heap} (h : va_at D vwCl (b + 35, nwG_X8 ct b 35) H) : va_at D vwCl (b + 35, nwF_X8 ct b 35) H := h
theorem nwE_X8_36 {D : va_G} {ct : Nat → ClassId} {b : Nat} {H : Heap} (h : va_at D vwCl (b + 36, nwG_X8 ct b 36) H) : va_at D vwCl (b + 36, nwF_X8 ct b 36) H := h
theorem nwE_X8_37 {D : va_G} {ct : Nat → ClassId} {b : Nat} {H : Heap} (h : va_at D vwCl (b + 37, nwG_X8 ct b 37) H) : va_at D vwCl (b + 37, nwF_X8 ct b 37) H := h
theorem nwE_X8_38 {D : va_G} {ct : Nat → ClassId} {b : Nat} {H : Heap} (h : va_at D vwCl (b + 38, nwG_X8 ct b 38) H) : va_at D vwCl (b + 38, nwF_X8 ct b 38) H := h
theorem nwE_X8_39 {D : va_G} {ct : Nat → ClassId} {b : Nat} {H : Heap} (h : va_at D vwCl (b + 39, nwG_X8 ct b 39) H) : va_at D vwCl (b + 39, nwF_X8 ct b 39) H := h
theorem nwE_X8_40 {D : va_G} {ct : Nat → ClassId} {b : Nat} {H : Heap} (h : va_at D vwCl (b + 40, nwG_X8 ct b 40) H) : va_at D vwCl (b + 40, nwF_X8 ct b 40) H := h
theorem nwE_X8_41 {D : va_G} {ct : Nat → ClassId} {b : Nat} {H : Heap} (h : va_at D vwCl (b + 41, nwG_X8 ct b 41) H) : va_at D vwCl (b + 41, nwF_X8 ct b 41) H := h
theorem nwE_X8_42 {D : va_G} {ct : Nat → ClassId} {b : Nat} {H : Heap} (h : va_at D vwCl (b + 42, nwG_X8 ct b 42) H) : va_at D vwCl (b + 42, nwF_X8 ct b 42) H := h
theorem nwE_X8_43 {D : va_G} {ct : Nat → ClassId} {b : Nat} {H : Heap} (h : va_at D vwCl (b + 43, nwG_X8 ct b 43) H) : va_at D vwCl (b + 43, nwF_X8 ct b 43) H := h
theorem nwE_X8_44 {D : va_G} {ct : Nat → ClassId} {b : Nat} {H : Heap} (h : va_at D vwCl (b + 44, nwG_X8 ct b 44) H) : va_at D vwCl (b + 44, nwF_X8 ct b 44) H := h
theorem nwE_X8_45 {D : va_G} {ct : Nat → ClassId} {b : Nat} {H : Heap} (h : va_at D vwCl (b + 45, nwG_X8 ct b 45) H) : va_at D vwCl (b + 45, nwF_X8 ct b 45) H := h
theorem nwE_X8_46 {D : va_G} {ct : Nat → ClassId} {b : Nat} {H : Heap} (h : va_at D vwCl (b + 46, nwG_X8 ct b 46) H) : va_at D vwCl (b + 46, nwF_X8 ct b 46) H := h
theorem nwE_X8_47 {D : va_G} {ct : Nat → ClassId} {b : Nat} {H : Heap} (h : va_at D vwCl (b + 47, nwG_X8 ct b 47) H) : va_at D vwCl (b + 47, nwF_X8 ct b 47) H := h
theorem nwE_X8_48 {D : va_G} {ct : Nat → ClassId} {b : Nat} {H : Heap} (h : va_at D vwCl (b + 48, nwG_X8 ct b 48) H) : va_at D vwCl (b + 48, nwF_X8 ct b 48) H := h
theorem nwE_X8_49 {D : va_G} {ct : Nat → ClassId} {b : Nat} {H : Heap} (h : va_at D vwCl (b + 49, nwG_X8 ct b 49) H) : va_at D vwCl (b + 49, nwF_X8 ct b 49) H := h
theorem nwE_X8_50 {D : va_G} {ct : Nat → ClassId} {b : Nat} {H : Heap} (h : va_at D vwCl (b + 50, nwG_X8 ct b 50) H) : va_at D vwCl (b + 50, nwF_X8 ct b 50) H := h
theorem nwE_X8_51 {D : va_G} {ct : Nat → ClassId} {b : Nat} {H : Heap} (h : va_at D vwCl (b + 51, nwG_X8 ct b 51) H) : va_at D vwCl (b + 51, nwF_X8 ct b 51) H := h
theorem nwE_X8_52 {D : va_G} {ct : Nat → ClassId} {b : Nat} {H : Heap} (h : va_at D vwCl (b + 52, nwG_X8 ct b 52) H) : va_at D vwCl (b + 52, nwF_X8 ct b 52) H := h
theorem nwE_X8_53 {D : va_G} {ct : Nat → ClassId} {b : Nat} {H : Heap} (h : va_at D vwCl (b + 53, nwG_X8 ct b 53) H) : va_at D vwCl (b + 53, nwF_X8 ct b 53) H := h
theorem nwE_X8_54 {D : va_G} {ct : Nat → ClassId} {b : Nat} {H : Heap} (h : va_at D vwCl (b + 54, nwG_X8 ct b 54) H) : va_at D vwCl (b + 54, nwF_X8 ct b 54) H := h
theorem nwE_X8_55 {D : va_G} {ct : Nat → ClassId} {b : Nat} {H : Heap} (h : va_at D vwCl (b + 55, nwG_X8 ct b 55) H) : va_at D vwCl (b + 55, nwF_X8 ct b 55) H := h
theorem nwE_X8_56 {D : va_G} {ct : Nat → ClassId} {b : Nat} {H : Heap} (h : va_at D vwCl (b + 56, nwG_X8 ct b 56) H) : va_at D vwCl (b + 56, nwF_X8 ct b 56) H := nw_ra (fun j hj => by show some (b + 55 + (1 + 1 + j)) = some (b + nw_off (51 + j)); rw [nw_o51 j hj]; congr 1; omega) h
theorem nwE_X8_57 {D : va_G} {ct : Nat → ClassId} {b : Nat} {H : Heap} (h : va_at D vwCl (b + 57, nwG_X8 ct b 57) H) : va_at D vwCl (b + 57, nwF_X8 ct b 57) H := h
theorem nwE_X8_58 {D : va_G} {ct : Nat → ClassId} {b : Nat} {H : Heap} (h : va_at D vwCl (b + 58, nwG_X8 ct b 58) H) : va_at D vwCl (b + 58, nwF_X8 ct b 58) H := h
theorem nwE_X8_59 {D : va_G} {ct : Nat → ClassId} {b : Nat} {H : Heap} (h : va_at D vwCl (b + 59, nwG_X8 ct b 59) H) : va_at D vwCl (b + 59, nwF_X8 ct b 59) H := h
theorem nwE_X8_60 {D : va_G} {ct : Nat → ClassId} {b : Nat} {H : Heap} (h : va_at D vwCl (b + 60, nwG_X8 ct b 60) H) : va_at D vwCl (b + 60, nwF_X8 ct b 60) H := h
theorem nwE_X8_61 {D : va_G} {ct : Nat → ClassId} {b : Nat} {H : Heap} (h : va_at D vwCl (b + 61, nwG_X8 ct b 61) H) : va_at D vwCl (b + 61, nwF_X8 ct b 61) H := h
theorem nwE_X8_62 {D : va_G} {ct : Nat → ClassId} {b : Nat} {H : Heap} (h : va_at D vwCl (b + 62, nwG_X8 ct b 62) H) : va_at D vwCl (b + 62, nwF_X8 ct b 62) H := h
theorem nwE_X8_63 {D : va_G} {ct : Nat → ClassId} {b : Nat} {H : Heap} (h : va_at D vwCl (b + 63, nwG_X8 ct b 63) H) : va_at D vwCl (b + 63, nwF_X8 ct b 63) H := h
theorem nwE_X8_64 {D : va_G} {ct : Nat → ClassId} {b : Nat} {H : Heap} (h : va_at D vwCl (b + 64, nwG_X8 ct b 64) H) : va_at D vwCl (b + 64, nwF_X8 ct b 64) H := h
theorem nwE_X8_65 {D : va_G} {ct : Nat → ClassId} {b : Nat} {H : Heap} (h : va_at D vwCl (b + 65, nwG_X8 ct b 65) H) : va_at D vwCl (b + 65, nwF_X8 ct b 65) H := h
theorem nwE_X8_66 {D : va_G} {ct : Nat → ClassId} {b : Nat} {H : Heap} (h : va_at D vwCl (b + 66, nwG_X8 ct b 66) H) : va_at D vwCl (b + 66, nwF_X8 ct b 66) H := h
theorem nwE_X8_67 {D : va_G} {ct : Nat → ClassId} {b : Nat} {H : Heap} (h : va_at D vwCl (b + 67, nwG_X8 ct b 67) H) : va_at D vwCl (b + 67, nwF_X8 ct b 67) H := h
theorem nwE_X8_68 {D : va_G} {ct : Nat → ClassId} {b : Nat} {H : Heap} (h : va_at D vwCl (b + 68, nwG_X8 ct b 68) H) : va_at D vwCl (b + 68, nwF_X8 ct b 68) H := h
theorem nwE_X8_69 {D : va_G} {ct : Nat → ClassId} {b : Nat} {H : Heap} (h : va_at D vwCl (b + 69, nwG_X8 ct b 69) H) : va_at D vwCl (b + 69, nwF_X8 ct b 69) H := h
theorem nwE_X8_70 {D : va_G} {ct : Nat → ClassId} {b : Nat} {H : Heap} (h : va_at D vwCl (b + 70, nwG_X8 ct b 70) H) : va_at D vwCl (b + 70, nwF_X8 ct b 70) H := h
theorem nwE_X8_71 {D : va_G} {ct : Nat → ClassId} {b : Nat} {H : Heap} (h : va_at D vwCl (b + 71, nwG_X8 ct b 71) H) : va_at D vwCl (b + 71, nwF_X8 ct b 71) H := h
theorem nwE_X8_72 {D : va_G} {ct : Nat → ClassId} {b : Nat} {H : Heap} (h : va_at D vwCl (b + 72, nwG_X8 ct b 72) H) : va_at D vwCl (b + 72, nwF_X8 ct b 72) H := h
theorem nwE_X8_73 {D : va_G} {ct : Nat → ClassId} {b : Nat} {H : Heap} (h : va_at D vwCl (b + 73, nwG_X8 ct b 73) H) : va_at D vwCl (b + 73, nwF_X8 ct b 73) H := h
theorem nwE_X8_74 {D : va_G} {ct : Nat → ClassId} {b : Nat} {H : Heap} (h : va_at D vwCl (b + 74, nwG_X8 ct b 74) H) : va_at D vwCl (b + 74, nwF_X8 ct b 74) H := h
theorem nwE_X8_75 {D : va_G} {ct : Nat → ClassId} {b : Nat} {H : Heap} (h : va_at D vwCl (b + 75, nwG_X8 ct b 75) H) : va_at D vwCl (b + 75, nwF_X8 ct b 75) H := h
theorem nwE_X8_76 {D : va_G} {ct : Nat → ClassId} {b : Nat} {H : Heap} (h : va_at D vwCl (b + 76, nwG_X8 ct b 76) H) : va_at D vwCl (b + 76, nwF_X8 ct b 76) H := h
theorem nwE_X8_77 {D : va_G} {ct : Nat → ClassId} {b : Nat} {H : Heap} (h : va_at D vwCl (b + 77, nwG_X8 ct b 77) H) : va_at D vwCl (b + 77, nwF_X8 ct b 77) H := h
theorem nwE_X8_78 {D : va_G} {ct : Nat → ClassId} {b : Nat} {H : Heap} (h : va_at D vwCl (b + 78, nwG_X8 ct b 78) H) : va_at D vwCl (b + 78, nwF_X8 ct b 78) H := h
theorem nwE_X8_79 {D : va_G} {ct : Nat → ClassId} {b : Nat} {H : Heap} (h : va_at D vwCl (b + 79, nwG_X8 ct b 79) H) : va_at D vwCl (b + 79, nwF_X8 ct b 79) H := h
theorem nwE_X8_80 {D : va_G} {ct : Nat → ClassId} {b : Nat} {H : Heap} (h : va_at D vwCl (b + 80, nwG_X8 ct b 80) H) : va_at D vwCl (b + 80, nwF_X8 ct b 80) H := h
theorem nwE_X8_81 {D : va_G} {ct : Nat → ClassId} {b : Nat} {H : Heap} (h : va_at D vwCl (b + 81, nwG_X8 ct b 81) H) : va_at D vwCl (b + 81, nwF_X8 ct b 81) H := h
theorem nwE_X8_82 {D : va_G} {ct : Nat → ClassId} {b : Nat} {H : Heap} (h : va_at D vwCl (b + 82, nwG_X8 ct b 82) H) : va_at D vwCl (b + 82, nwF_X8 ct b 82) H := h
theorem nwE_X8_83 {D : va_G} {ct : Nat → ClassId} {b : Nat} {H : Heap} (h : va_at D vwCl (b + 83, nwG_X8 ct b 83) H) : va_at D vwCl (b + 83, nwF_X8 ct b 83) H := h
theorem nwE_X8_84 {D : va_G} {ct : Nat → ClassId} {b : Nat} {H : Heap} (h : va_at D vwCl (b + 84, nwG_X8 ct b 84) H) : va_at D vwCl (b + 84, nwF_X8 ct b 84) H := h
theorem nwE_X8_85 {D : va_G} {ct : Nat → ClassId} {b : Nat} {H : Heap} (h : va_at D vwCl (b + 85, nwG_X8 ct b 85) H) : va_at D vwCl (b + 85, nwF_X8 ct b 85) H := h
theorem nwE_X8_86 {D : va_G} {ct : Nat → ClassId} {b : Nat} {H : Heap} (h : va_at D vwCl (b + 86, nwG_X8 ct b 86) H) : va_at D vwCl (b + 86, nwF_X8 ct b 86) H := h
theorem nwE_X8_87 {D : va_G} {ct : Nat → ClassId} {b : Nat} {H : Heap} (h : va_at D vwCl (b + 87, nwG_X8 ct b 87) H) : va_at D vwCl (b + 87, nwF_X8 ct b 87) H := h
theorem nwE_X8_88 {D : va_G} {ct : Nat → ClassId} {b : Nat} {H : Heap} (h : va_at D vwCl (b + 88, nwG_X8 ct b 88) H) : va_at D vwCl (b + 88, nwF_X8 ct b 88) H := h
theorem nwE_X8_89 {D : va_G} {ct : Nat → ClassId} {b : Nat} {H : Heap} (h : va_at D vwCl (b + 89, nwG_X8 ct b 89) H) : va_at D vwCl (b + 89, nwF_X8 ct b 89) H := h
theorem nwE_X8_90 {D : va_G} {ct : Nat → ClassId} {b : Nat} {H : Heap} (h : va_at D vwCl (b + 90, nwG_X8 ct b 90) H) : va_at D vwCl (b + 90, nwF_X8 ct b 90) H := h
theorem nwE_X8_91 {D : va_G} {ct : Nat → ClassId} {b : Nat} {H : Heap} (h : va_at D vwCl (b + 91, nwG_X8 ct b 91) H) : va_at D vwCl (b + 91, nwF_X8 ct b 91) H := h
theorem nwE_X8_92 {D : va_G} {ct : Nat → ClassId} {b : Nat} {H : Heap} (h : va_at D vwCl (b + 92, nwG_X8 ct b 92) H) : va_at D vwCl (b + 92, nwF_X8 ct b 92) H := h
theorem nwE_X8_93 {D : va_G} {ct : Nat → ClassId} {b : Nat} {H : Heap} (h : va_at D vwCl (b + 93, nwG_X8 ct b 93) H) : va_at D vwCl (b + 93, nwF_X8 ct b 93) H := h
theorem nwE_X8_94 {D : va_G} {ct : Nat → ClassId} {b : Nat} {H : Heap} (h : va_at D vwCl (b + 94, nwG_X8 ct b 94) H) : va_at D vwCl (b + 94, nwF_X8 ct b 94) H := h
theorem nwE_X8_95 {D : va_G} {ct : Nat → ClassId} {b : Nat} {H : Heap} (h : va_at D vwCl (b + 95, nwG_X8 ct b 95) H) : va_at D vwCl (b + 95, nwF_X8 ct b 95) H := nw_ra (fun j hj => by show some (b + 94 + (1 + 1 + j)) = some (b + nw_off (57 + j)); rw [nw_o57 j hj]; congr 1; omega) h
theorem nwE_X8_96 {D : va_G} {ct : Nat → ClassId} {b : Nat} {H : Heap} (h : va_at D vwCl (b + 96, nwG_X8 ct b 96) H) : va_at D vwCl (b + 96, nwF_X8 ct b 96) H := h
theorem nwE_X8_97 {D : va_G} {ct : Nat → ClassId} {b : Nat} {H : Heap} (h : va_at D vwCl (b + 97, nwG_X8 ct b 97) H) : va_at D vwCl (b + 97, nwF_X8 ct b 97) H := h
theorem nwE_X8_98 {D : va_G} {ct : Nat → ClassId} {b : Nat} {H : Heap} (h : va_at D vwCl (b + 98, nwG_X8 ct b 98) H) : va_at D vwCl (b + 98, nwF_X8 ct b 98) H := h
theorem nwE_X8_99 {D : va_G} {ct : Nat → ClassId} {b : Nat} {H : Heap} (h : va_at D vwCl (b + 99, nwG_X8 ct b 99) H) : va_at D vwCl (b + 99, nwF_X8 ct b 99) H := h
theorem nwE_X8_100 {D : va_G} {ct : Nat → ClassId} {b : Nat} {H : Heap} (h : va_at D vwCl (b + 100, nwG_X8 ct b 100) H) : va_at D vwCl (b + 100, nwF_X8 ct b 100) H := h
theorem nwE_X8_101 {D : va_G} {ct : Nat → ClassId} {b : Nat} {H : Heap} (h : va_at D vwCl (b + 101, nwG_X8 ct b 101) H) : va_at D vwCl (b + 101, nwF_X8 ct b 101) H := h
theorem nwE_X8_102 {D : va_G} {ct : Nat → ClassId} {b : Nat} {H : Heap} (h : va_at D vwCl (b + 102, nwG_X8 ct b 102) H) : va_at D vwCl (b + 102, nwF_X8 ct b 102) H := nw_ra (fun j hj => by show some (b + 94 + (8 + 1 + j)) = some (b + nw_off (104 + j)); rw [nw_o104 j hj]; congr 1; omega) h
theorem nwE_X8_103 {D : va_G} {ct : Nat → ClassId} {b : Nat} {H : Heap} (h : va_at D vwCl (b + 103, nwG_X8 ct b 103) H) : va_at D vwCl (b + 103, nwF_X8 ct b 103) H := h
theorem nwE_X8_104 {D : va_G} {ct : Nat → ClassId} {b : Nat} {H : Heap} (h : va_at D vwCl (b + 104, nwG_X8 ct b 104) H) : va_at D vwCl (b + 104, nwF_X8 ct b 104) H := h
theorem nwE_X8_105 {D : va_G} {ct : Nat → ClassId} {b : Nat} {H : Heap} (h : va_at D vwCl (b + 105, nwG_X8 ct b 105) H) : va_at D vwCl (b + 105, nwF_X8 ct b 105) H := h
theorem nwE_X8_106 {D : va_G} {ct : Nat → ClassId} {b : Nat} {H : Heap} (h : va_at D vwCl (b + 106, nwG_X8 ct b 106) H) : va_at D vwCl (b + 106, nwF_X8 ct b 106) H := h
theorem nwE_X8_107 {D : va_G} {ct : Nat → ClassId} {b : Nat} {H : Heap} (h : va_at D vwCl (b + 107, nwG_X8 ct b 107) H) : va_at D vwCl (b + 107, nwF_X8 ct b 107) H := h
theorem nwE_X8_108 {D : va_G} {ct : Nat → ClassId} {b : Nat} {H : Heap} (h : va_at D vwCl (b + 108, nwG_X8 ct b 108) H) : va_at D vwCl (b + 108, nwF_X8 ct b 108) H := h
theorem nwE_X8_109 {D : va_G} {ct : Nat → ClassId} {b : Nat} {H : Heap} (h : va_at D vwCl (b + 109, nwG_X8 ct b 109) H) : va_at D vwCl (b + 109, nwF_X8 ct b 109) H := h
theorem nwE_X8_110 {D : va_G} {ct : Nat → ClassId} {b : Nat} {H : Heap} (h : va_at D vwCl (b + 110, nwG_X8 ct b 110) H) : va_at D vwCl (b + 110, nwF_X8 ct b 110) H := h
theorem nwE_X8_111 {D : va_G} {ct : Nat → ClassId} {b : Nat} {H : Heap} (h : va_at D vwCl (b + 111, nwG_X8 ct b 111) H) : va_at D vwCl (b + 111, nwF_X8 ct b 111) H := h
theorem nwE_X8_112 {D : va_G} {ct : Nat → ClassId} {b : Nat} {H : Heap} (h : va_at D vwCl (b + 112, nwG_X8 ct b 112) H) : va_at D vwCl (b + 112, nwF_X8 ct b 112) H := h
theorem nwE_X8_113 {D : va_G} {ct : Nat → ClassId} {b : Nat} {H : Heap} (h : va_at D vwCl (b + 113, nwG_X8 ct b 113) H) : va_at D vwCl (b + 113, nwF_X8 ct b 113) H := h
theorem nwE_X8_114 {D : va_G} {ct : Nat → ClassId} {b : Nat} {H : Heap} (h : va_at D vwCl (b + 114, nwG_X8 ct b 114) H) : va_at D vwCl (b + 114, nwF_X8 ct b 114) H := h
theorem nwE_X8_115 {D : va_G} {ct : Nat → ClassId} {b : Nat} {H : Heap} (h : va_at D vwCl (b + 115, nwG_X8 ct b 115) H) : va_at D vwCl (b + 115, nwF_X8 ct b 115) H := h
theorem nwE_X8_116 {D : va_G} {ct : Nat → ClassId} {b : Nat} {H : Heap} (h : va_at D vwCl (b + 116, nwG_X8 ct b 116) H) : va_at D vwCl (b + 116, nwF_X8 ct b 116) H := h
theorem nwE_X8_117 {D : va_G} {ct : Nat → ClassId} {b : Nat} {H : Heap} (h : va_at D vwCl (b + 117, nwG_X8 ct b 117) H) : va_at D vwCl (b + 117, nwF_X8 ct b 117) H := h
theorem nwE_X8_118 {D : va_G} {ct : Nat → ClassId} {b : Nat} {H : Heap} (h : va_at D vwCl (b + 118, nwG_X8 ct b 118) H) : va_at D vwCl (b + 118, nwF_X8 ct b 118) H := h
theorem nwE_X8_119 {D : va_G} {ct : Nat → ClassId} {b : Nat} {H : Heap} (h : va_at D vwCl (b + 119, nwG_X8 ct b 119) H) : va_at D vwCl (b + 119, nwF_X8 ct b 119) H := h
theorem nwE_X8_120 {D : va_G} {ct : Nat → ClassId} {b : Nat} {H : Heap} (h : va_at D vwCl (b + 120, nwG_X8 ct b 120) H) : va_at D vwCl (b + 120, nwF_X8 ct b 120) H := h
theorem nwE_X8_121 {D : va_G} {ct : Nat → ClassId} {b : Nat} {H : Heap} (h : va_at D vwCl (b + 121, nwG_X8 ct b 121) H) : va_at D vwCl (b + 121, nwF_X8 ct b 121) H := h
theorem nwE_X8_122 {D : va_G} {ct : Nat → ClassId} {b : Nat} {H : Heap} (h : va_at D vwCl (b + 122, nwG_X8 ct b 122) H) : va_at D vwCl (b + 122, nwF_X8 ct b 122) H := h
theorem nwE_X8_123 {D : va_G} {ct : Nat → ClassId} {b : Nat} {H : Heap} (h : va_at D vwCl (b + 123, nwG_X8 ct b 123) H) : va_at D vwCl (b + 123, nwF_X8 ct b 123) H := h
theorem nwE_X8_124 {D : va_G} {ct : Nat → ClassId} {b : Nat} {H : Heap} (h : va_at D vwCl (b + 124, nwG_X8 ct b 124) H) : va_at D vwCl (b + 124, nwF_X8 ct b 124) H := h
theorem nwE_X8_125 {D : va_G} {ct : Nat → ClassId} {b : Nat} {H : Heap} (h : va_at D vwCl (b + 125, nwG_X8 ct b 125) H) : va_at D vwCl (b + 125, nwF_X8 ct b 125) H := h
theorem nwE_X8_126 {D : va_G} {ct : Nat → ClassId} {b : Nat} {H : Heap} (h : va_at D vwCl (b + 126, nwG_X8 ct b 126) H) : va_at D vwCl (b + 126, nwF_X8 ct b 126) H := h
theorem nwE_X8_127 {D : va_G} {ct : Nat → ClassId} {b : Nat} {H : Heap} (h : va_at D vwCl (b + 127, nwG_X8 ct b 127) H) : va_at D vwCl (b + 127, nwF_X8 ct b 127) H := h
theorem nwE_X8_128 {D : va_G} {ct : Nat → ClassId} {b : Nat} {H : Heap} (h : va_at D vwCl (b + 128, nwG_X8 ct b 128) H) : va_at D vwCl (b + 128, nwF_X8 ct b 128) H := h
theorem nwE_X8_129 {D : va_G} {ct : Nat → ClassId} {b : Nat} {H : Heap} (h : va_at D vwCl (b + 129, nwG_X8 ct b 129) H) : va_at D vwCl (b + 129, nwF_X8 ct b 129) H := h
theorem nwE_X8_130 {D : va_G} {ct : Nat → ClassId} {b : Nat} {H : Heap} (h : va_at D vwCl (b + 130, nwG_X8 ct b 130) H) : va_at D vwCl (b + 130, nwF_X8 ct b 130) H := h
theorem nwE_X8_131 {D : va_G} {ct : Nat → ClassId} {b : Nat} {H : Heap} (h : va_at D vwCl (b + 131, nwG_X8 ct b 131) H) : va_at D vwCl (b + 131, nwF_X8 ct b 131) H := h
theorem nwE_X8_132 {D : va_G} {ct : Nat → ClassId} {b : Nat} {H : Heap} (h : va_at D vwCl (b + 132, nwG_X8 ct b 132) H) : va_at D vwCl (b + 132, nwF_X8 ct b 132) H := h
theorem nwE_X8_133 {D : va_G} {ct : Nat → ClassId} {b : Nat} {H : Heap} (h : va_at D vwCl (b + 133, nwG_X8 ct b 133) H) : va_at D vwCl (b + 133, nwF_X8 ct b 133) H := h
theorem nwE_X8_134 {D : va_G} {ct : Nat → ClassId} {b : Nat} {H : Heap} (h : va_at D vwCl (b + 134, nwG_X8 ct b 134) H) : va_at D vwCl (b + 134, nwF_X8 ct b 134) H := h
theorem nwE_X8_135 {D : va_G} {ct : Nat → ClassId} {b : Nat} {H : Heap} (h : va_at D vwCl (b + 135, nwG_X8 ct b 135) H) : va_at D vwCl (b + 135, nwF_X8 ct b 135) H := h
theorem nwE_X8_136 {D : va_G} {ct : Nat → ClassId} {b : Nat} {H : Heap} (h : va_at D vwCl (b + 136, nwG_X8 ct b 136) H) : va_at D vwCl (b + 136, nwF_X8 ct b 136) H := h
theorem nwE_X8_137 {D : va_G} {ct : Nat → ClassId} {b : Nat} {H : Heap} (h : va_at D vwCl (b + 137, nwG_X8 ct b 137) H) : va_at D vwCl (b + 137, nwF_X8 ct b 137) H := h
theorem nwE_X8_138 {D : va_G} {ct : Nat → ClassId} {b : Nat} {H : Heap} (h : va_at D vwCl (b + 138, nwG_X8 ct b 138) H) : va_at D vwCl (b + 138, nwF_X8 ct b 138) H := h
theorem nwE_X8_139 {D : va_G} {ct : Nat → ClassId} {b : Nat} {H : Heap} (h : va_at D vwCl (b + 139, nwG_X8 ct b 139) H) : va_at D vwCl (b + 139, nwF_X8 ct b 139) H := h
theorem nwE_X8_140 {D : va_G} {ct : Nat → ClassId} {b : Nat} {H : Heap} (h : va_at D vwCl (b + 140, nwG_X8 ct b 140) H) : va_at D vwCl (b + 140, nwF_X8 ct b 140) H := h
theorem nwE_X8_141 {D : va_G} {ct : Nat → ClassId} {b : Nat} {H : Heap} (h : va_at D vwCl (b + 141, nwG_X8 ct b 141) H) : va_at D vwCl (b + 141, nwF_X8 ct b 141) H := h
theorem nwE_X8_142 {D : va_G} {ct : Nat → ClassId} {b : Nat} {H : Heap} (h : va_at D vwCl (b + 142, nwG_X8 ct b 142) H) : va_at D vwCl (b + 142, nwF_X8 ct b 142) H := h
theorem nwE_X8_143 {D : va_G} {ct : Nat → ClassId} {b : Nat} {H : Heap} (h : va_at D vwCl (b + 143, nwG_X8 ct b 143) H) : va_at D vwCl (b + 143, nwF_X8 ct b 143) H := h
set_option maxRecDepth 20000 in
theorem nwE_X8 {D : va_G} {ct : Nat → ClassId} {b : Nat} {H : Heap} : ∀ i, i < 144 → va_at D vwCl (b + i, nwG_X8 ct b i) H → va_at D vwCl (b + i, nwF_X8 ct b i) H := by
  intro i hi h
  rcases Nat.lt_succ_iff_lt_or_eq.mp hi with hi | e
  case inr => subst e; exact nwE_X8_143 h
  rcases Nat.lt_succ_iff_lt_or_eq.mp hi with hi | e
  case inr => subst e; exact nwE_X8_142 h
  rcases Nat.lt_succ_iff_lt_or_eq.mp hi with hi | e
  case inr => subst e; exact nwE_X8_141 h
  rcases Nat.lt_succ_iff_lt_or_eq.mp hi with hi | e
  case inr => subst e; exact nwE_X8_140 h
  rcases Nat.lt_succ_iff_lt_or_eq.mp hi with hi | e
  case inr => subst e; exact nwE_X8_139 h
  rcases Nat.lt_succ_iff_lt_or_eq.mp hi with hi | e
  case inr => subst e; exact nwE_X8_138 h
  rcases Nat.lt_succ_iff_lt_or_eq.mp hi with hi | e
  case inr => subst e; exact nwE_X8_137 h
  rcases Nat.lt_succ_iff_lt_or_eq.mp hi with hi | e
  case inr => subst e; exact nwE_X8_136 h
  rcases Nat.lt_succ_iff_lt_or_eq.mp hi with hi | e
  case inr => subst e; exact nwE_X8_135 h
  rcases Nat.lt_succ_iff_lt_or_eq.mp hi with hi | e
  case inr => subst e; exact nwE_X8_134 h
  rcases Nat.lt_succ_iff_lt_or_eq.mp hi with hi | e
  case inr => subst e; exact nwE_X8_133 h
  rcases Nat.lt_succ_iff_lt_or_eq.mp hi with hi | e
  case inr => subst e; exact nwE_X8_132 h
  rcases Nat.lt_succ_iff_lt_or_eq.mp hi with hi | e
  case inr => subst e; exact nwE_X8_131 h
  rcases Nat.lt_succ_iff_lt_or_eq.mp hi with hi | e
  case inr => subst e; exact nwE_X8_130 h
  rcases Nat.lt_succ_iff_lt_or_eq.mp hi with hi | e
  case inr => subst e; exact nwE_X8_129 h
  rcases Nat.lt_succ_iff_lt_or_eq.mp hi with hi | e
  case inr => subst e; exact nwE_X8_128 h
  rcases Nat.lt_succ_iff_lt_or_eq.mp hi with hi | e
  case inr => subst e; exact nwE_X8_127 h
  rcases Nat.lt_succ_iff_lt_or_eq.mp hi with hi | e
  case inr => subst e; exact nwE_X8_126 h
  rcases Nat.lt_succ_iff_lt_or_eq.mp hi with hi | e
  case inr => subst e; exact nwE_X8_125 h
  rcases Nat.lt_succ_iff_lt_or_eq.mp hi with hi | e
  case inr => subst e; exact nwE_X8_124 h
  rcases Nat.lt_succ_iff_lt_or_eq.mp hi with hi | e
  case inr => subst e; exact nwE_X8_123 h
  rcases Nat.lt_succ_iff_lt_or_eq.mp hi with hi | e
  case inr => subst e; exact nwE_X8_122 h
  rcases Nat.lt_succ_iff_lt_or_eq.mp hi with hi | e
  case inr => subst e; exact nwE_X8_121 h
  rcases Nat.lt_succ_iff_lt_or_eq.mp hi with hi | e
  case inr => subst e; exact nwE_X8_120 h
  rcases Nat.lt_succ_iff_lt_or_eq.mp hi with hi | e
  case inr => subst e; exact nwE_X8_119 h
  rcases Nat.lt_succ_iff_lt_or_eq.mp hi with hi | e
  case inr => subst e; exact nwE_X8_118 h
  rcases Nat.lt_succ_iff_lt_or_eq.mp hi with hi | e
  case inr => subst e; exact nwE_X8_117 h
  rcases Nat.lt_succ_iff_lt_or_eq.mp hi with hi | e
  case inr => subst e; exact nwE_X8_116 h
  rcases Nat.lt_succ_iff_lt_or_eq.mp hi with hi | e
  case inr => subst e; exact nwE_X8_115 h
  rcases Nat.lt_succ_iff_lt_or_eq.mp hi with hi | e
  case inr => subst e; exact nwE_X8_114 h
  rcases Nat.lt_succ_iff_lt_or_eq.mp hi with hi | e
  case inr => subst e; exact nwE_X8_113 h
  rcases Nat.lt_succ_iff_lt_or_eq.mp hi with hi | e
  case inr => subst e; exact nwE_X8_112 h
  rcases Nat.lt_succ_iff_lt_or_eq.mp hi with hi | e
  case inr => subst e; exact nwE_X8_111 h
  rcases Nat.lt_succ_iff_lt_or_eq.mp hi with hi | e
  case inr => subst e; exact nwE_X8_110 h
  rcases Nat.lt_succ_iff_lt_or_eq.mp hi with hi | e
  case inr => subst e; exact nwE_X8_109 h
  rcases Nat.lt_succ_iff_lt_or_eq.mp hi with hi | e
  case inr => subst e; exact nwE_X8_108 h
  rcases Nat.lt_succ_iff_lt_or_eq.mp hi with hi | e
  case inr => subst e; exact nwE_X8_107 h
  rcases Nat.lt_succ_iff_lt_or_eq.mp hi with hi | e
  case inr => subst e; exact nwE_X8_106 h
  rcases Nat.lt_succ_iff_lt_or_eq.mp hi with hi | e
  case inr => subst e; exact nwE_X8_105 h
  rcases Nat.lt_succ_iff_lt_or_eq.mp hi with hi | e
  case inr => subst e; exact nwE_X8_104 h
  rcases Nat.lt_succ_iff_lt_or_eq.mp hi with hi | e
  case inr => subst e; exact nwE_X8_103 h
  rcases Nat.lt_succ_iff_lt_or_eq.mp hi with hi | e
  case inr => subst e; exact nwE_X8_102 h
  rcases Nat.lt_succ_iff_lt_or_eq.mp hi with hi | e
  case inr => subst e; exact nwE_X8_101 h
  rcases Nat.lt_succ_iff_lt_or_eq.mp hi with hi | e
  case inr => subst e; exact nwE_X8_100 h
  rcases Nat.lt_succ_iff_lt_or_eq.mp hi with hi | e
  case inr => subst e; exact nwE_X8_99 h
  rcases Nat.lt_succ_iff_lt_or_eq.mp hi with hi | e
  case inr => subst e; exact nwE_X8_98 h
  rcases Nat.lt_succ_iff_lt_or_eq.mp hi with hi | e
  case inr => subst e; exact nwE_X8_97 h
  rcases Nat.lt_succ_iff_lt_or_eq.mp hi with hi | e
  case inr => subst e; exact nwE_X8_96 h
  rcases Nat.lt_succ_iff_lt_or_eq.mp hi with hi | e
  case inr => subst e; exact nwE_X8_95 h
  rcases Nat.lt_succ_iff_lt_or_eq.mp hi with hi | e
  case inr => subst e; exact nwE_X8_94 h
  rcases Nat.lt_succ_iff_lt_or_eq.mp hi with hi | e
  case inr => subst e; exact nwE_X8_93 h
  rcases Nat.lt_succ_iff_lt_or_eq.mp hi with hi | e
  case inr => subst e; exact nwE_X8_92 h
  rcases Nat.lt_succ_iff_lt_or_eq.mp hi with hi | e
  case inr => subst e; exact nwE_X8_91 h
  rcases Nat.lt_succ_iff_lt_or_eq.mp hi with hi | e
  case inr => subst e; exact nwE_X8_90 h
  rcases Nat.lt_succ_iff_lt_or_eq.mp hi with hi | e
  case inr => subst e; exact nwE_X8_89 h
  rcases Nat.lt_succ_iff_lt_or_eq.mp hi with hi | e
  case inr => subst e; exact nwE_X8_88 h
  rcases Nat.lt_succ_iff_lt_or_eq.mp hi with hi | e
  case inr => subst e; exact nwE_X8_87 h
  rcases Nat.lt_succ_iff_lt_or_eq.mp hi with hi | e
  case inr => subst e; exact nwE_X8_86 h
  rcases Nat.lt_succ_iff_lt_or_eq.mp hi with hi | e
  case inr => subst e; exact nwE_X8_85 h
  rcases Nat.lt_succ_iff_lt_or_eq.mp hi with hi | e
  case inr => subst e; exact nwE_X8_84 h
  rcases Nat.lt_succ_iff_lt_or_eq.mp hi with hi | e
  case inr => subst e; exact nwE_X8_83 h
  rcases Nat.lt_succ_iff_lt_or_eq.mp hi with hi | e
  case inr => subst e; exact nwE_X8_82 h
  rcases Nat.lt_succ_iff_lt_or_eq.mp hi with hi | e
  case inr => subst e; exact nwE_X8_81 h
  rcases Nat.lt_succ_iff_lt_or_eq.mp hi with hi | e
  case inr => subst e; exact nwE_X8_80 h
  rcases Nat.lt_succ_iff_lt_or_eq.mp hi with hi | e
  case inr => subst e; exact nwE_X8_79 h
  rcases Nat.lt_succ_iff_lt_or_eq.mp hi with hi | e
  case inr => subst e; exact nwE_X8_78 h
  rcases Nat.lt_succ_iff_lt_or_eq.mp hi with hi | e
  case inr => subst e; exact nwE_X8_77 h
  rcases Nat.lt_succ_iff_lt_or_eq.mp hi with hi | e
  case inr => subst e; exact nwE_X8_76 h
  rcases Nat.lt_succ_iff_lt_or_eq.mp hi with hi | e
  case inr => subst e; exact nwE_X8_75 h
  rcases Nat.lt_succ_iff_lt_or_eq.mp hi with hi | e
  case inr => subst e; exact nwE_X8_74 h
  rcases Nat.lt_succ_iff_lt_or_eq.mp hi with hi | e
  case inr => subst e; exact nwE_X8_73 h
  rcases Nat.lt_succ_iff_lt_or_eq.mp hi with hi | e
  case inr => subst e; exact nwE_X8_72 h
  rcases Nat.lt_succ_iff_lt_or_eq.mp hi with hi | e
  case inr => subst e; exact nwE_X8_71 h
  rcases Nat.lt_succ_iff_lt_or_eq.mp hi with hi | e
  case inr => subst e; exact nwE_X8_70 h
  rcases Nat.lt_succ_iff_lt_or_eq.mp hi with hi | e
  case inr => subst e; exact nwE_X8_69 h
  rcases Nat.lt_succ_iff_lt_or_eq.mp hi with hi | e
  case inr => subst e; exact nwE_X8_68 h
  rcases Nat.lt_succ_iff_lt_or_eq.mp hi with hi | e
  case inr => subst e; exact nwE_X8_67 h
  rcases Nat.lt_succ_iff_lt_or_eq.mp hi with hi | e
  case inr => subst e; exact nwE_X8_66 h
  rcases Nat.lt_succ_iff_lt_or_eq.mp hi with hi | e
  case inr => subst e; exact nwE_X8_65 h
  rcases Nat.lt_succ_iff_lt_or_eq.mp hi with hi | e
  case inr => subst e; exact nwE_X8_64 h
  rcases Nat.lt_succ_iff_lt_or_eq.mp hi with hi | e
  case inr => subst e; exact nwE_X8_63 h
  rcases Nat.lt_succ_iff_lt_or_eq.mp hi with hi | e
  case inr => subst e; exact nwE_X8_62 h
  rcases Nat.lt_succ_iff_lt_or_eq.mp hi with hi | e
  case inr => subst e; exact nwE_X8_61 h
  rcases Nat.lt_succ_iff_lt_or_eq.mp hi with hi | e
  case inr => subst e; exact nwE_X8_60 h
  rcases Nat.lt_succ_iff_lt_or_eq.mp hi with hi | e
  case inr => subst e; exact nwE_X8_59 h
  rcases Nat.lt_succ_iff_lt_or_eq.mp hi with hi | e
  case inr => subst e; exact nwE_X8_58 h
  rcases Nat.lt_succ_iff_lt_or_eq.mp hi with hi | e
  case inr => subst e; exact nwE_X8_57 h
  rcases Nat.lt_succ_iff_lt_or_eq.mp hi with hi | e
  case inr => subst e; exact nwE_X8_56 h
  rcases Nat.lt_succ_iff_lt_or_eq.mp hi with hi | e
  case inr => subst e; exact nwE_X8_55 h
  rcases Nat.lt_succ_iff_lt_or_eq.mp hi with hi | e
  case inr => subst e; exact nwE_X8_54 h
  rcases Nat.lt_succ_iff_lt_or_eq.mp hi with hi | e
  case inr => subst e; exact nwE_X8_53 h
  rcases Nat.lt_succ_iff_lt_or_eq.mp hi with hi | e
  case inr => subst e; exact nwE_X8_52 h
  rcases Nat.lt_succ_iff_lt_or_eq.mp hi with hi | e
  case inr => subst e; exact nwE_X8_51 h
  rcases Nat.lt_succ_iff_lt_or_eq.mp hi with hi | e
  case inr => subst e; exact nwE_X8_50 h
  rcases Nat.lt_succ_iff_lt_or_eq.mp hi with hi | e
  case inr => subst e; exact nwE_X8_49 h
  rcases Nat.lt_succ_iff_lt_or_eq.mp hi with hi | e
  case inr => subst e; exact nwE_X8_48 h
  rcases Nat.lt_succ_iff_lt_or_eq.mp hi with hi | e
  case inr => subst e; exact nwE_X8_47 h
  rcases Nat.lt_succ_iff_lt_or_eq.mp hi with hi | e
  case inr => subst e; exact nwE_X8_46 h
  rcases Nat.lt_succ_iff_lt_or_eq.mp hi with hi | e
  case inr => subst e; exact nwE_X8_45 h
  rcases Nat.lt_succ_iff_lt_or_eq.mp hi with hi | e
  case inr => subst e; exact nwE_X8_44 h
  rcases Nat.lt_succ_iff_lt_or_eq.mp hi with hi | e
  case inr => subst e; exact nwE_X8_43 h
  rcases Nat.lt_succ_iff_lt_or_eq.mp hi with hi | e
  case inr => subst e; exact nwE_X8_42 h
  rcases Nat.lt_succ_iff_lt_or_eq.mp hi with hi | e
  case inr => subst e; exact nwE_X8_41 h
  rcases Nat.lt_succ_iff_lt_or_eq.mp hi with hi | e
  case inr => subst e; exact nwE_X8_40 h
  rcases Nat.lt_succ_iff_lt_or_eq.mp hi with hi | e
  case inr => subst e; exact nwE_X8_39 h
  rcases Nat.lt_succ_iff_lt_or_eq.mp hi with hi | e
  case inr => subst e; exact nwE_X8_38 h
  rcases Nat.lt_succ_iff_lt_or_eq.mp hi with hi | e
  case inr => subst e; exact nwE_X8_37 h
  rcases Nat.lt_succ_iff_lt_or_eq.mp hi with hi | e
  case inr => subst e; exact nwE_X8_36 h
  rcases Nat.lt_succ_iff_lt_or_eq.mp hi with hi | e
  case inr => subst e; exact nwE_X8_35 h
  rcases Nat.lt_succ_iff_lt_or_eq.mp hi with hi | e
  case inr => subst e; exact nwE_X8_34 h
  rcases Nat.lt_succ_iff_lt_or_eq.mp hi with hi | e
  case inr => subst e; exact nwE_X8_33 h
  rcases Nat.lt_succ_iff_lt_or_eq.mp hi with hi | e
  case inr => subst e; exact nwE_X8_32 h
  rcases Nat.lt_succ_iff_lt_or_eq.mp hi with hi | e
  case inr => subst e; exact nwE_X8_31 h
  rcases Nat.lt_succ_iff_lt_or_eq.mp hi with hi | e
  case inr => subst e; exact nwE_X8_30 h
  rcases Nat.lt_succ_iff_lt_or_eq.mp hi with hi | e
  case inr => subst e; exact nwE_X8_29 h
  rcases Nat.lt_succ_iff_lt_or_eq.mp hi with hi | e
  case inr => subst e; exact nwE_X8_28 h
  rcases Nat.lt_succ_iff_lt_or_eq.mp hi with hi | e
  case inr => subst e; exact nwE_X8_27 h
  rcases Nat.lt_succ_iff_lt_or_eq.mp hi with hi | e
  case inr => subst e; exact nwE_X8_26 h
  rcases Nat.lt_succ_iff_lt_or_eq.mp hi with hi | e
  case inr => subst e; exact nwE_X8_25 h
  rcases Nat.lt_succ_iff_lt_or_eq.mp hi with hi | e
  case inr => subst e; exact nwE_X8_24 h
  rcases Nat.lt_succ_iff_lt_or_eq.mp hi with hi | e
  case inr => subst e; exact nwE_X8_23 h
  rcases Nat.lt_succ_iff_lt_or_eq.mp hi with hi | e
  case inr => subst e; exact nwE_X8_22 h
  rcases Nat.lt_succ_iff_lt_or_eq.mp hi with hi | e
  case inr => subst e; exact nwE_X8_21 h
  rcases Nat.lt_succ_iff_lt_or_eq.mp hi with hi | e
  case inr => subst e; exact nwE_X8_20 h
  rcases Nat.lt_succ_iff_lt_or_eq.mp hi with hi | e
  case inr => subst e; exact nwE_X8_19 h
  rcases Nat.lt_succ_iff_lt_or_eq.mp hi with hi | e
  case inr => subst e; exact nwE_X8_18 h
  rcases Nat.lt_succ_iff_lt_or_eq.mp hi with hi | e
  case inr => subst e; exact nwE_X8_17 h
  rcases Nat.lt_succ_iff_lt_or_eq.mp hi with hi | e
  case inr => subst e; exact nwE_X8_16 h
  rcases Nat.lt_succ_iff_lt_or_eq.mp hi with hi | e
  case inr => subst e; exact nwE_X8_15 h
  rcases Nat.lt_succ_iff_lt_or_eq.mp hi with hi | e
  case inr => subst e; exact nwE_X8_14 h
  rcases Nat.lt_succ_iff_lt_or_eq.mp hi with hi | e
  case inr => subst e; exact nwE_X8_13 h
  rcases Nat.lt_succ_iff_lt_or_eq.mp hi with hi | e
  case inr => subst e; exact nwE_X8_12 h
  rcases Nat.lt_succ_iff_lt_or_eq.mp hi with hi | e
  case inr => subst e; exact nwE_X8_11 h
  rcases Nat.lt_succ_iff_lt_or_eq.mp hi with hi | e
  case inr => subst e; exact nwE_X8_10 h
  rcases Nat.lt_succ_iff_lt_or_eq.mp hi with hi | e
  case inr => subst e; exact nwE_X8_9 h
  rcases Nat.lt_succ_iff_lt_or_eq.mp hi with hi | e
  case inr => subst e; exact nwE_X8_8 h
  rcases Nat.lt_succ_iff_lt_or_eq.mp hi with hi | e
  case inr => subst e; exact nwE_X8_7 h
  rcases Nat.lt_succ_iff_lt_or_eq.mp hi with hi | e
  case inr => subst e; exact nwE_X8_6 h
  rcases Nat.lt_succ_iff_lt_or_eq.mp hi with hi | e
  case inr => subst e; exact nwE_X8_5 h
  rcases Nat.lt_succ_iff_lt_or_eq.mp hi with hi | e
  case inr => subst e; exact nwE_X8_4 h
  rcases Nat.lt_succ_iff_lt_or_eq.mp hi with hi | e
  case inr => subst e; exact nwE_X8_3 h
  rcases Nat.lt_succ_iff_lt_or_eq.mp hi with hi | e
  case inr => subst e; exact nwE_X8_2 h
  rcases Nat.lt_succ_iff_lt_or_eq.mp hi with hi | e
  case inr => subst e; exact nwE_X8_1 h
  rcases Nat.lt_succ_iff_lt_or_eq.mp hi with hi | e
  case inr => subst e; exact nwE_X8_0 h
  omega
set_option maxRecDepth 20000 in
set_option maxHeartbeats 4000000 in
theorem k_X8_init {l : Launch} {D : va_G} {ct : Nat → ClassId} {b : Nat} : nw_Met l D ct yX8_init cX8_init 2 ({ frames := 2, cells := 143, slots := 3543, locals := 36 } : Room) [.ref b] b (.inr (7, [.null, fm_I 0, .null, .null, .null, .null, .null, .null, .null])) 144 (fun H => va_P D vwCl (nw_ws b 144 (nwF_X8 ct b)) H) := by
  refine nw_start (own := RX8) (by decide) rfl rfl (Nat.le_of_ble_eq_true rfl) [some (.ref b), none] rfl (fun Γ hI => ?_)
  refine nw_aload dX8_init_0 rfl ?_
  refine nw_obj dX8_init_1 nq_ml_X8 nq_oi nq_oc (Nat.le_of_ble_eq_true rfl) (Nat.le_of_ble_eq_true rfl) ?_
  refine nw_aload dX8_init_4 rfl ?_
  refine nw_bipush (by decide) dX8_init_5 ?_
  refine nw_newR (N := 6) 2 1 6 rfl rfl rfl rfl (by decide) dX8_init_7 nq_cl_X8_9 (Nat.le_of_ble_eq_true rfl) (Nat.le_of_ble_eq_true rfl) ?_
  refine nw_putF (i := 0) (fs := [.null, fm_I 0, .null, .null, .null, .null, .null, .null, .null]) hI dX8_init_10 fd_X8_11 nq_f_X8_0 (by decide) rfl (Nat.le_of_ble_eq_true rfl) ?_
  refine nw_aload dX8_init_13 rfl ?_
  refine nw_new (ci := 4) (fs := [.null, .null, fm_I 0]) tyX4 3 2 9 rfl rfl rfl dX8_init_14 nq_cl_X8_15 nq_in_X4 nq_it_X4 us_X4 tyX4_ok rfl nq_d_X4 (Nat.le_of_ble_eq_true rfl) (Nat.le_of_ble_eq_true rfl) ?_
  refine nw_dup dX8_init_17 ?_
  refine nw_callN (i0 := 2) (nF := 3) (As := []) (rest := [.ref (b + 2), .ref b]) (F := nwF_X4 ct (b + 2)) 5 4 89 rfl rfl rfl rfl rfl dX8_init_18 k_X4_init rfl (fun U h => h.2.2.1) nq_y_X4 rfl (by decide) (Nat.le_of_ble_eq_true rfl) (Nat.le_of_ble_eq_true rfl) rfl (Nat.le_of_ble_eq_true rfl) ?_
  refine nw_putF (i := 0) (fs := [.ref (b + 1), fm_I 0, .null, .null, .null, .null, .null, .null, .null]) hI dX8_init_21 fd_X8_18 nq_f_X8_2 (by decide) rfl (Nat.le_of_ble_eq_true rfl) ?_
  refine nw_aload dX8_init_24 rfl ?_
  refine nw_iconst dX8_init_25 ?_
  refine nw_newI (N := 4) 6 5 93 rfl rfl rfl rfl (by decide) dX8_init_26 nq_ai (Nat.le_of_ble_eq_true rfl) (Nat.le_of_ble_eq_true rfl) ?_
  refine nw_dup dX8_init_28 ?_
  refine nw_iconst dX8_init_29 ?_
  refine nw_iconst dX8_init_30 ?_
  refine nw_iast (i := 5) (N := 4) dX8_init_31 (by decide) rfl (by decide) (by decide) (by decide) ?_
  refine nw_dup dX8_init_32 ?_
  refine nw_iconst dX8_init_33 ?_
  refine nw_bipush (by decide) dX8_init_34 ?_
  refine nw_iast (i := 5) (N := 4) dX8_init_36 (by decide) rfl (by decide) (by decide) (by decide) ?_
  refine nw_dup dX8_init_37 ?_
  refine nw_iconst dX8_init_38 ?_
  refine nw_iconst dX8_init_39 ?_
  refine nw_iast (i := 5) (N := 4) dX8_init_40 (by decide) rfl (by decide) (by decide) (by decide) ?_
  refine nw_dup dX8_init_41 ?_
  refine nw_iconst dX8_init_42 ?_
  refine nw_bipush (by decide) dX8_init_43 ?_
  refine nw_iast (i := 5) (N := 4) dX8_init_45 (by decide) rfl (by decide) (by decide) (by decide) ?_
  refine nw_putF (i := 0) (fs := [.ref (b + 1), fm_I 0, .ref (b + 2), .null, .null, .null, .null, .null, .null]) hI dX8_init_46 fd_X8_22 nq_f_X8_3 (by decide) rfl (Nat.le_of_ble_eq_true rfl) ?_
  refine nw_aload dX8_init_49 rfl ?_
  refine nw_new (ci := 1) (fs := [.null, .null]) tyX1 7 6 95 rfl rfl rfl dX8_init_50 nq_cl_X8_26 nq_in_X1 nq_it_X1 us_X1 tyX1_ok rfl nq_d_X1 (Nat.le_of_ble_eq_true rfl) (Nat.le_of_ble_eq_true rfl) ?_
  refine nw_dup dX8_init_53 ?_
  refine nw_callN (i0 := 6) (nF := 44) (As := []) (rest := [.ref (b + 6), .ref b]) (F := nwF_X1 ct (b + 6)) 50 49 1857 rfl rfl rfl rfl rfl dX8_init_54 k_X1_init rfl (fun U h => h.2.2.2.1) nq_y_X1 rfl (by decide) (Nat.le_of_ble_eq_true rfl) (Nat.le_of_ble_eq_true rfl) rfl (Nat.le_of_ble_eq_true rfl) ?_
  refine nw_putF (i := 0) (fs := [.ref (b + 1), fm_I 0, .ref (b + 2), .ref (b + 5), .null, .null, .null, .null, .null]) hI dX8_init_57 fd_X8_29 nq_f_X8_4 (by decide) rfl (Nat.le_of_ble_eq_true rfl) ?_
  refine nw_aload dX8_init_60 rfl ?_
  refine nw_new (ci := 2) (fs := [.null, .null, .null, .null, fm_I 0]) tyX2 51 50 1862 rfl rfl rfl dX8_init_61 nq_cl_X8_33 nq_in_X2 nq_it_X2 us_X2 tyX2_ok rfl nq_d_X2 (Nat.le_of_ble_eq_true rfl) (Nat.le_of_ble_eq_true rfl) ?_
  refine nw_dup dX8_init_64 ?_
  refine nw_callN (i0 := 50) (nF := 5) (As := []) (rest := [.ref (b + 50), .ref b]) (F := nwF_X2 ct (b + 50)) 55 54 1910 rfl rfl rfl rfl rfl dX8_init_65 k_X2_init rfl (fun U h => h.2.2.2.2.1) nq_y_X2 rfl (by decide) (Nat.le_of_ble_eq_true rfl) (Nat.le_of_ble_eq_true rfl) rfl (Nat.le_of_ble_eq_true rfl) ?_
  refine nw_putF (i := 0) (fs := [.ref (b + 1), fm_I 0, .ref (b + 2), .ref (b + 5), .ref (b + 6), .null, .null, .null, .null]) hI dX8_init_68 fd_X8_36 nq_f_X8_6 (by decide) rfl (Nat.le_of_ble_eq_true rfl) ?_
  refine nw_aload dX8_init_71 rfl ?_
  refine nw_new (ci := 0) (fs := [.null, .null, .null, .null, fm_I 0]) tyX0 56 55 1915 rfl rfl rfl dX8_init_72 nq_cl_X8_40 nq_in_X0 nq_it_X0 us_X0 tyX0_ok rfl nq_d_X0 (Nat.le_of_ble_eq_true rfl) (Nat.le_of_ble_eq_true rfl) ?_
  refine nw_dup dX8_init_75 ?_
  refine nw_callN (i0 := 55) (nF := 11) (As := []) (rest := [.ref (b + 55), .ref b]) (F := nwF_X0 ct (b + 55)) 66 65 2091 rfl rfl rfl rfl rfl dX8_init_76 k_X0_init rfl (fun U h => h.2.2.2.2.2.1) nq_y_X0 rfl (by decide) (Nat.le_of_ble_eq_true rfl) (Nat.le_of_ble_eq_true rfl) rfl (Nat.le_of_ble_eq_true rfl) ?_
  refine nw_putF (i := 0) (fs := [.ref (b + 1), fm_I 0, .ref (b + 2), .ref (b + 5), .ref (b + 6), .null, .ref (b + 50), .null, .null]) hI dX8_init_79 fd_X8_43 nq_f_X8_7 (by decide) rfl (Nat.le_of_ble_eq_true rfl) ?_
  refine nw_aload dX8_init_82 rfl ?_
  refine nw_new (ci := 6) (fs := [.null, .null, .null, fm_I 0]) tyX6 67 66 2095 rfl rfl rfl dX8_init_83 nq_cl_X8_47 nq_in_X6 nq_it_X6 us_X6 tyX6_ok rfl nq_d_X6 (Nat.le_of_ble_eq_true rfl) (Nat.le_of_ble_eq_true rfl) ?_
  refine nw_dup dX8_init_86 ?_
  refine nw_callN (i0 := 66) (nF := 4) (As := []) (rest := [.ref (b + 66), .ref b]) (F := nwF_X6 ct (b + 66)) 70 69 2185 rfl rfl rfl rfl rfl dX8_init_87 k_X6_init rfl (fun U h => h.2.2.2.2.2.2.1) nq_y_X6 rfl (by decide) (Nat.le_of_ble_eq_true rfl) (Nat.le_of_ble_eq_true rfl) rfl (Nat.le_of_ble_eq_true rfl) ?_
  refine nw_putF (i := 0) (fs := [.ref (b + 1), fm_I 0, .ref (b + 2), .ref (b + 5), .ref (b + 6), .null, .ref (b + 50), .ref (b + 55), .null]) hI dX8_init_90 fd_X8_50 nq_f_X8_8 (by decide) rfl (Nat.le_of_ble_eq_true rfl) ?_
  refine nw_iconst dX8_init_93 ?_
  refine nw_ist1 rfl dX8_init_94 ?_
  refine nw_iload dX8_init_95 rfl ?_
  refine nw_bipush (by decide) dX8_init_96 ?_
  refine nw_geF 120 dX8_init_98 ⟨by decide, by decide⟩ ⟨by decide, by decide⟩ (by decide) (by decide) ?_
  refine nw_aload dX8_init_101 rfl ?_
  refine nw_getR (i := 0) (a := b + 1) (fs := [.ref (b + 1), fm_I 0, .ref (b + 2), .ref (b + 5), .ref (b + 6), .null, .ref (b + 50), .ref (b + 55), .ref (b + 66)]) dX8_init_102 fd_X8_11 (by decide) rfl rfl ?_
  refine nw_iload dX8_init_105 rfl ?_
  refine nw_new (ci := 3) (fs := [.null, .null, .null, fm_I 0]) tyX3 71 70 2189 rfl rfl rfl dX8_init_106 nq_cl_X8_9 nq_in_X3 nq_it_X3 us_X3 tyX3_ok rfl nq_d_X3 (Nat.le_of_ble_eq_true rfl) (Nat.le_of_ble_eq_true rfl) ?_
  refine nw_dup dX8_init_109 ?_
  refine nw_callN (i0 := 70) (nF := 4) (As := []) (rest := [.ref (b + 70), fm_I 0, .ref (b + 1)]) (F := nwF_X3 ct (b + 70)) 74 73 2309 rfl rfl rfl rfl rfl dX8_init_110 k_X3_init rfl (fun U h => h.2.2.2.2.2.2.2) nq_y_X3 rfl (by decide) (Nat.le_of_ble_eq_true rfl) (Nat.le_of_ble_eq_true rfl) rfl (Nat.le_of_ble_eq_true rfl) ?_
  refine nw_aast (i := 1) (v := 70) (N := 6) dX8_init_113 (by decide) (by decide) rfl rfl (by decide) (by decide) (by decide) ?_
  refine nw_inc1 rfl dX8_init_114 ?_
  simp only [Int.reduceAdd]
  refine nw_goto 95 dX8_init_117 (by decide) ?_
  refine nw_iload dX8_init_95 rfl ?_
  refine nw_bipush (by decide) dX8_init_96 ?_
  refine nw_geF 120 dX8_init_98 ⟨by decide, by decide⟩ ⟨by decide, by decide⟩ (by decide) (by decide) ?_
  refine nw_aload dX8_init_101 rfl ?_
  refine nw_getR (i := 0) (a := b + 1) (fs := [.ref (b + 1), fm_I 0, .ref (b + 2), .ref (b + 5), .ref (b + 6), .null, .ref (b + 50), .ref (b + 55), .ref (b + 66)]) dX8_init_102 fd_X8_11 (by decide) rfl rfl ?_
  refine nw_iload dX8_init_105 rfl ?_
  refine nw_new (ci := 3) (fs := [.null, .null, .null, fm_I 0]) tyX3 75 74 2313 rfl rfl rfl dX8_init_106 nq_cl_X8_9 nq_in_X3 nq_it_X3 us_X3 tyX3_ok rfl nq_d_X3 (Nat.le_of_ble_eq_true rfl) (Nat.le_of_ble_eq_true rfl) ?_
  refine nw_dup dX8_init_109 ?_
  refine nw_callN (i0 := 74) (nF := 4) (As := []) (rest := [.ref (b + 74), fm_I 1, .ref (b + 1)]) (F := nwF_X3 ct (b + 74)) 78 77 2433 rfl rfl rfl rfl rfl dX8_init_110 k_X3_init rfl (fun U h => h.2.2.2.2.2.2.2) nq_y_X3 rfl (by decide) (Nat.le_of_ble_eq_true rfl) (Nat.le_of_ble_eq_true rfl) rfl (Nat.le_of_ble_eq_true rfl) ?_
  refine nw_aast (i := 1) (v := 74) (N := 6) dX8_init_113 (by decide) (by decide) rfl rfl (by decide) (by decide) (by decide) ?_
  refine nw_inc1 rfl dX8_init_114 ?_
  simp only [Int.reduceAdd]
  refine nw_goto 95 dX8_init_117 (by decide) ?_
  refine nw_iload dX8_init_95 rfl ?_
  refine nw_bipush (by decide) dX8_init_96 ?_
  refine nw_geF 120 dX8_init_98 ⟨by decide, by decide⟩ ⟨by decide, by decide⟩ (by decide) (by decide) ?_
  refine nw_aload dX8_init_101 rfl ?_
  refine nw_getR (i := 0) (a := b + 1) (fs := [.ref (b + 1), fm_I 0, .ref (b + 2), .ref (b + 5), .ref (b + 6), .null, .ref (b + 50), .ref (b + 55), .ref (b + 66)]) dX8_init_102 fd_X8_11 (by decide) rfl rfl ?_
  refine nw_iload dX8_init_105 rfl ?_
  refine nw_new (ci := 3) (fs := [.null, .null, .null, fm_I 0]) tyX3 79 78 2437 rfl rfl rfl dX8_init_106 nq_cl_X8_9 nq_in_X3 nq_it_X3 us_X3 tyX3_ok rfl nq_d_X3 (Nat.le_of_ble_eq_true rfl) (Nat.le_of_ble_eq_true rfl) ?_
  refine nw_dup dX8_init_109 ?_
  refine nw_callN (i0 := 78) (nF := 4) (As := []) (rest := [.ref (b + 78), fm_I 2, .ref (b + 1)]) (F := nwF_X3 ct (b + 78)) 82 81 2557 rfl rfl rfl rfl rfl dX8_init_110 k_X3_init rfl (fun U h => h.2.2.2.2.2.2.2) nq_y_X3 rfl (by decide) (Nat.le_of_ble_eq_true rfl) (Nat.le_of_ble_eq_true rfl) rfl (Nat.le_of_ble_eq_true rfl) ?_
  refine nw_aast (i := 1) (v := 78) (N := 6) dX8_init_113 (by decide) (by decide) rfl rfl (by decide) (by decide) (by decide) ?_
  refine nw_inc1 rfl dX8_init_114 ?_
  simp only [Int.reduceAdd]
  refine nw_goto 95 dX8_init_117 (by decide) ?_
  refine nw_iload dX8_init_95 rfl ?_
  refine nw_bipush (by decide) dX8_init_96 ?_
  refine nw_geF 120 dX8_init_98 ⟨by decide, by decide⟩ ⟨by decide, by decide⟩ (by decide) (by decide) ?_
  refine nw_aload dX8_init_101 rfl ?_
  refine nw_getR (i := 0) (a := b + 1) (fs := [.ref (b + 1), fm_I 0, .ref (b + 2), .ref (b + 5), .ref (b + 6), .null, .ref (b + 50), .ref (b + 55), .ref (b + 66)]) dX8_init_102 fd_X8_11 (by decide) rfl rfl ?_
  refine nw_iload dX8_init_105 rfl ?_
  refine nw_new (ci := 3) (fs := [.null, .null, .null, fm_I 0]) tyX3 83 82 2561 rfl rfl rfl dX8_init_106 nq_cl_X8_9 nq_in_X3 nq_it_X3 us_X3 tyX3_ok rfl nq_d_X3 (Nat.le_of_ble_eq_true rfl) (Nat.le_of_ble_eq_true rfl) ?_
  refine nw_dup dX8_init_109 ?_
  refine nw_callN (i0 := 82) (nF := 4) (As := []) (rest := [.ref (b + 82), fm_I 3, .ref (b + 1)]) (F := nwF_X3 ct (b + 82)) 86 85 2681 rfl rfl rfl rfl rfl dX8_init_110 k_X3_init rfl (fun U h => h.2.2.2.2.2.2.2) nq_y_X3 rfl (by decide) (Nat.le_of_ble_eq_true rfl) (Nat.le_of_ble_eq_true rfl) rfl (Nat.le_of_ble_eq_true rfl) ?_
  refine nw_aast (i := 1) (v := 82) (N := 6) dX8_init_113 (by decide) (by decide) rfl rfl (by decide) (by decide) (by decide) ?_
  refine nw_inc1 rfl dX8_init_114 ?_
  simp only [Int.reduceAdd]
  refine nw_goto 95 dX8_init_117 (by decide) ?_
  refine nw_iload dX8_init_95 rfl ?_
  refine nw_bipush (by decide) dX8_init_96 ?_
  refine nw_geF 120 dX8_init_98 ⟨by decide, by decide⟩ ⟨by decide, by decide⟩ (by decide) (by decide) ?_
  refine nw_aload dX8_init_101 rfl ?_
  refine nw_getR (i := 0) (a := b + 1) (fs := [.ref (b + 1), fm_I 0, .ref (b + 2), .ref (b + 5), .ref (b + 6), .null, .ref (b + 50), .ref (b + 55), .ref (b + 66)]) dX8_init_102 fd_X8_11 (by decide) rfl rfl ?_
  refine nw_iload dX8_init_105 rfl ?_
  refine nw_new (ci := 3) (fs := [.null, .null, .null, fm_I 0]) tyX3 87 86 2685 rfl rfl rfl dX8_init_106 nq_cl_X8_9 nq_in_X3 nq_it_X3 us_X3 tyX3_ok rfl nq_d_X3 (Nat.le_of_ble_eq_true rfl) (Nat.le_of_ble_eq_true rfl) ?_
  refine nw_dup dX8_init_109 ?_
  refine nw_callN (i0 := 86) (nF := 4) (As := []) (rest := [.ref (b + 86), fm_I 4, .ref (b + 1)]) (F := nwF_X3 ct (b + 86)) 90 89 2805 rfl rfl rfl rfl rfl dX8_init_110 k_X3_init rfl (fun U h => h.2.2.2.2.2.2.2) nq_y_X3 rfl (by decide) (Nat.le_of_ble_eq_true rfl) (Nat.le_of_ble_eq_true rfl) rfl (Nat.le_of_ble_eq_true rfl) ?_
  refine nw_aast (i := 1) (v := 86) (N := 6) dX8_init_113 (by decide) (by decide) rfl rfl (by decide) (by decide) (by decide) ?_
  refine nw_inc1 rfl dX8_init_114 ?_
  simp only [Int.reduceAdd]
  refine nw_goto 95 dX8_init_117 (by decide) ?_
  refine nw_iload dX8_init_95 rfl ?_
  refine nw_bipush (by decide) dX8_init_96 ?_
  refine nw_geF 120 dX8_init_98 ⟨by decide, by decide⟩ ⟨by decide, by decide⟩ (by decide) (by decide) ?_
  refine nw_aload dX8_init_101 rfl ?_
  refine nw_getR (i := 0) (a := b + 1) (fs := [.ref (b + 1), fm_I 0, .ref (b + 2), .ref (b + 5), .ref (b + 6), .null, .ref (b + 50), .ref (b + 55), .ref (b + 66)]) dX8_init_102 fd_X8_11 (by decide) rfl rfl ?_
  refine nw_iload dX8_init_105 rfl ?_
  refine nw_new (ci := 3) (fs := [.null, .null, .null, fm_I 0]) tyX3 91 90 2809 rfl rfl rfl dX8_init_106 nq_cl_X8_9 nq_in_X3 nq_it_X3 us_X3 tyX3_ok rfl nq_d_X3 (Nat.le_of_ble_eq_true rfl) (Nat.le_of_ble_eq_true rfl) ?_
  refine nw_dup dX8_init_109 ?_
  refine nw_callN (i0 := 90) (nF := 4) (As := []) (rest := [.ref (b + 90), fm_I 5, .ref (b + 1)]) (F := nwF_X3 ct (b + 90)) 94 93 2929 rfl rfl rfl rfl rfl dX8_init_110 k_X3_init rfl (fun U h => h.2.2.2.2.2.2.2) nq_y_X3 rfl (by decide) (Nat.le_of_ble_eq_true rfl) (Nat.le_of_ble_eq_true rfl) rfl (Nat.le_of_ble_eq_true rfl) ?_
  refine nw_aast (i := 1) (v := 90) (N := 6) dX8_init_113 (by decide) (by decide) rfl rfl (by decide) (by decide) (by decide) ?_
  refine nw_inc1 rfl dX8_init_114 ?_
  simp only [Int.reduceAdd]
  refine nw_goto 95 dX8_init_117 (by decide) ?_
  refine nw_iload dX8_init_95 rfl ?_
  refine nw_bipush (by decide) dX8_init_96 ?_
  refine nw_geT 120 dX8_init_98 ⟨by decide, by decide⟩ ⟨by decide, by decide⟩ (by decide) (by decide) ?_
  refine nw_aload dX8_init_120 rfl ?_
  refine nw_new (ci := 5) (fs := [.null, .null, .null, .null, .null, .null, .null, fm_I 0]) tyX5 95 94 2937 rfl rfl rfl dX8_init_121 nq_cl_X8_55 nq_in_X5 nq_it_X5 us_X5 tyX5_ok rfl nq_d_X5 (Nat.le_of_ble_eq_true rfl) (Nat.le_of_ble_eq_true rfl) ?_
  refine nw_dup dX8_init_124 ?_
  refine nw_aload dX8_init_125 rfl ?_
  refine nw_getR (i := 0) (a := b + 2) (fs := [.ref (b + 1), fm_I 0, .ref (b + 2), .ref (b + 5), .ref (b + 6), .null, .ref (b + 50), .ref (b + 55), .ref (b + 66)]) dX8_init_126 fd_X8_18 (by decide) rfl rfl ?_
  refine nw_aload dX8_init_129 rfl ?_
  refine nw_getR (i := 0) (a := b + 1) (fs := [.ref (b + 1), fm_I 0, .ref (b + 2), .ref (b + 5), .ref (b + 6), .null, .ref (b + 50), .ref (b + 55), .ref (b + 66)]) dX8_init_130 fd_X8_11 (by decide) rfl rfl ?_
  refine nw_aload dX8_init_133 rfl ?_
  refine nw_getR (i := 0) (a := b + 5) (fs := [.ref (b + 1), fm_I 0, .ref (b + 2), .ref (b + 5), .ref (b + 6), .null, .ref (b + 50), .ref (b + 55), .ref (b + 66)]) dX8_init_134 fd_X8_22 (by decide) rfl rfl ?_
  refine nw_aload dX8_init_137 rfl ?_
  refine nw_getR (i := 0) (a := b + 6) (fs := [.ref (b + 1), fm_I 0, .ref (b + 2), .ref (b + 5), .ref (b + 6), .null, .ref (b + 50), .ref (b + 55), .ref (b + 66)]) dX8_init_138 fd_X8_29 (by decide) rfl rfl ?_
  refine nw_callP (i0 := 94) (nF := 50) (As := [.ref (b + 2), .ref (b + 1), .ref (b + 5), .ref (b + 6)]) (rest := [.ref (b + 94), .ref b]) (F := nwF_X5 ct (b + 94) (b + 2) (b + 1) (b + 5) (b + 6)) 144 143 3543 rfl rfl rfl rfl rfl dX8_init_141 k_X5_init rfl nq_57 nq_y_X5 rfl (by decide) (Nat.le_of_ble_eq_true rfl) (Nat.le_of_ble_eq_true rfl) rfl (Nat.le_of_ble_eq_true rfl) ?_
  refine nw_putF (i := 0) (fs := [.ref (b + 1), fm_I 0, .ref (b + 2), .ref (b + 5), .ref (b + 6), .null, .ref (b + 50), .ref (b + 55), .ref (b + 66)]) hI dX8_init_144 fd_X8_60 nq_f_X8_5 (by decide) rfl (Nat.le_of_ble_eq_true rfl) ?_
  exact nw_vret hI rfl dX8_init_147 (fun H hP => nw_P (fun i hi => nwE_X8 i hi (hP i _ (nw_at hi))))
def nwG_X9 (ct : Nat → ClassId) (b : Nat) : Nat → va_E := nw_up (nw_up (nw_up (nw_up (nw_up (nw_up (nw_up (nw_up (nw_up (nw_up (nw_up (nw_up (nw_up (nw_up (nw_up (nw_up (nw_up (nw_up (nw_up (nw_up (nw_up (nw_up (nw_up (nw_up (nw_up (nw_up (nw_up (nw_up (nw_up (nw_up (nw_up (nw_up (nw_up (nw_up (nw_up (nw_up (nw_up (nw_up (nw_up (nw_up (nw_up (nw_up (nw_up (nw_up (nw_up (fun _ => .inr (8, [fm_I 0, .null, .null, .null, .null, .null, .null, fm_I 0, .null, .null, .null, .null, fm_I 0, .null, .null, .null, fm_I 0, .null, .null, .null, .null, .null, .null, .null, .null])) 1 (.inl (ct 0, 7, .inl (fun _ => Int32.ofInt 0)))) 0 (.inr (8, [fm_I 0, .ref (b + 1), .null, .null, .null, .null, .null, fm_I 0, .null, .null, .null, .null, fm_I 0, .null, .null, .null, fm_I 0, .null, .null, .null, .null, .null, .null, .null, .null]))) 2 (.inl (ct 0, 280, .inl (fun _ => Int32.ofInt 0)))) 0 (.inr (8, [fm_I 0, .ref (b + 1), .ref (b + 2), .null, .null, .null, .null, fm_I 0, .null, .null, .null, .null, fm_I 0, .null, .null, .null, fm_I 0, .null, .null, .null, .null, .null, .null, .null, .null]))) 3 (.inl (ct 0, 240, .inl (fun _ => Int32.ofInt 0)))) 0 (.inr (8, [fm_I 0, .ref (b + 1), .ref (b + 2), .ref (b + 3), .null, .null, .null, fm_I 0, .null, .null, .null, .null, fm_I 0, .null, .null, .null, fm_I 0, .null, .null, .null, .null, .null, .null, .null, .null]))) 4 (.inl (ct 0, 240, .inl (fun _ => Int32.ofInt 0)))) 0 (.inr (8, [fm_I 0, .ref (b + 1), .ref (b + 2), .ref (b + 3), .ref (b + 4), .null, .null, fm_I 0, .null, .null, .null, .null, fm_I 0, .null, .null, .null, fm_I 0, .null, .null, .null, .null, .null, .null, .null, .null]))) 5 (.inl (ct 0, 40, .inl (fun _ => Int32.ofInt 0)))) 0 (.inr (8, [fm_I 0, .ref (b + 1), .ref (b + 2), .ref (b + 3), .ref (b + 4), .ref (b + 5), .null, fm_I 0, .null, .null, .null, .null, fm_I 0, .null, .null, .null, fm_I 0, .null, .null, .null, .null, .null, .null, .null, .null]))) 6 (.inl (ct 0, 4, .inl (fun _ => Int32.ofInt 0)))) 0 (.inr (8, [fm_I 0, .ref (b + 1), .ref (b + 2), .ref (b + 3), .ref (b + 4), .ref (b + 5), .ref (b + 6), fm_I 0, .null, .null, .null, .null, fm_I 0, .null, .null, .null, fm_I 0, .null, .null, .null, .null, .null, .null, .null, .null]))) 7 (.inl (ct 0, 12, .inl (fun _ => Int32.ofInt 0)))) 0 (.inr (8, [fm_I 0, .ref (b + 1), .ref (b + 2), .ref (b + 3), .ref (b + 4), .ref (b + 5), .ref (b + 6), fm_I 0, .ref (b + 7), .null, .null, .null, fm_I 0, .null, .null, .null, fm_I 0, .null, .null, .null, .null, .null, .null, .null, .null]))) 8 (.inl (ct 0, 12, .inl (fun _ => Int32.ofInt 0)))) 0 (.inr (8, [fm_I 0, .ref (b + 1), .ref (b + 2), .ref (b + 3), .ref (b + 4), .ref (b + 5), .ref (b + 6), fm_I 0, .ref (b + 7), .ref (b + 8), .null, .null, fm_I 0, .null, .null, .null, fm_I 0, .null, .null, .null, .null, .null, .null, .null, .null]))) 9 (.inl (ct 0, 12, .inl (fun _ => Int32.ofInt 0)))) 0 (.inr (8, [fm_I 0, .ref (b + 1), .ref (b + 2), .ref (b + 3), .ref (b + 4), .ref (b + 5), .ref (b + 6), fm_I 0, .ref (b + 7), .ref (b + 8), .ref (b + 9), .null, fm_I 0, .null, .null, .null, fm_I 0, .null, .null, .null, .null, .null, .null, .null, .null]))) 10 (.inl (ct 0, 12, .inl (fun _ => Int32.ofInt 0)))) 0 (.inr (8, [fm_I 0, .ref (b + 1), .ref (b + 2), .ref (b + 3), .ref (b + 4), .ref (b + 5), .ref (b + 6), fm_I 0, .ref (b + 7), .ref (b + 8), .ref (b + 9), .ref (b + 10), fm_I 0, .null, .null, .null, fm_I 0, .null, .null, .null, .null, .null, .null, .null, .null]))) 11 (.inl (ct 0, 20, .inl (fun _ => Int32.ofInt 0)))) 0 (.inr (8, [fm_I 0, .ref (b + 1), .ref (b + 2), .ref (b + 3), .ref (b + 4), .ref (b + 5), .ref (b + 6), fm_I 0, .ref (b + 7), .ref (b + 8), .ref (b + 9), .ref (b + 10), fm_I 0, .ref (b + 11), .null, .null, fm_I 0, .null, .null, .null, .null, .null, .null, .null, .null]))) 12 (.inl (ct 0, 20, .inl (fun _ => Int32.ofInt 0)))) 0 (.inr (8, [fm_I 0, .ref (b + 1), .ref (b + 2), .ref (b + 3), .ref (b + 4), .ref (b + 5), .ref (b + 6), fm_I 0, .ref (b + 7), .ref (b + 8), .ref (b + 9), .ref (b + 10), fm_I 0, .ref (b + 11), .ref (b + 12), .null, fm_I 0, .null, .null, .null, .null, .null, .null, .null, .null]))) 13 (.inl (ct 0, 20, .inl (fun _ => Int32.ofInt 0)))) 0 (.inr (8, [fm_I 0, .ref (b + 1), .ref (b + 2), .ref (b + 3), .ref (b + 4), .ref (b + 5), .ref (b + 6), fm_I 0, .ref (b + 7), .ref (b + 8), .ref (b + 9), .ref (b + 10), fm_I 0, .ref (b + 11), .ref (b + 12), .ref (b + 13), fm_I 0, .null, .null, .null, .null, .null, .null, .null, .null]))) 14 (.inl (ct 0, 30, .inl (fun _ => Int32.ofInt 0)))) 0 (.inr (8, [fm_I 0, .ref (b + 1), .ref (b + 2), .ref (b + 3), .ref (b + 4), .ref (b + 5), .ref (b + 6), fm_I 0, .ref (b + 7), .ref (b + 8), .ref (b + 9), .ref (b + 10), fm_I 0, .ref (b + 11), .ref (b + 12), .ref (b + 13), fm_I 0, .ref (b + 14), .null, .null, .null, .null, .null, .null, .null]))) 15 (.inl (ct 0, 30, .inl (fun _ => Int32.ofInt 0)))) 0 (.inr (8, [fm_I 0, .ref (b + 1), .ref (b + 2), .ref (b + 3), .ref (b + 4), .ref (b + 5), .ref (b + 6), fm_I 0, .ref (b + 7), .ref (b + 8), .ref (b + 9), .ref (b + 10), fm_I 0, .ref (b + 11), .ref (b + 12), .ref (b + 13), fm_I 0, .ref (b + 14), .ref (b + 15), .null, .null, .null, .null, .null, .null]))) 16 (.inl (ct 0, 1681, .inl (fun _ => Int32.ofInt 0)))) 0 (.inr (8, [fm_I 0, .ref (b + 1), .ref (b + 2), .ref (b + 3), .ref (b + 4), .ref (b + 5), .ref (b + 6), fm_I 0, .ref (b + 7), .ref (b + 8), .ref (b + 9), .ref (b + 10), fm_I 0, .ref (b + 11), .ref (b + 12), .ref (b + 13), fm_I 0, .ref (b + 14), .ref (b + 15), .ref (b + 16), .null, .null, .null, .null, .null]))) 17 (.inl (ct 0, 40, .inl (fun _ => Int32.ofInt 0)))) 0 (.inr (8, [fm_I 0, .ref (b + 1), .ref (b + 2), .ref (b + 3), .ref (b + 4), .ref (b + 5), .ref (b + 6), fm_I 0, .ref (b + 7), .ref (b + 8), .ref (b + 9), .ref (b + 10), fm_I 0, .ref (b + 11), .ref (b + 12), .ref (b + 13), fm_I 0, .ref (b + 14), .ref (b + 15), .ref (b + 16), .ref (b + 17), .null, .null, .null, .null]))) 18 (.inl (ct 0, 240, .inl (fun _ => Int32.ofInt 0)))) 0 (.inr (8, [fm_I 0, .ref (b + 1), .ref (b + 2), .ref (b + 3), .ref (b + 4), .ref (b + 5), .ref (b + 6), fm_I 0, .ref (b + 7), .ref (b + 8), .ref (b + 9), .ref (b + 10), fm_I 0, .ref (b + 11), .ref (b + 12), .ref (b + 13), fm_I 0, .ref (b + 14), .ref (b + 15), .ref (b + 16), .ref (b + 17), .ref (b + 18), .null, .null, .null]))) 19 (.inl (ct 0, 280, .inl (fun _ => Int32.ofInt 0)))) 0 (.inr (8, [fm_I 0, .ref (b + 1), .ref (b + 2), .ref (b + 3), .ref (b + 4), .ref (b + 5), .ref (b + 6), fm_I 0, .ref (b + 7), .ref (b + 8), .ref (b + 9), .ref (b + 10), fm_I 0, .ref (b + 11), .ref (b + 12), .ref (b + 13), fm_I 0, .ref (b + 14), .ref (b + 15), .ref (b + 16), .ref (b + 17), .ref (b + 18), .ref (b + 19), .null, .null]))) 20 (.inl (ct 0, 40, .inl (fun _ => Int32.ofInt 0)))) 0 (.inr (8, [fm_I 0, .ref (b + 1), .ref (b + 2), .ref (b + 3), .ref (b + 4), .ref (b + 5), .ref (b + 6), fm_I 0, .ref (b + 7), .ref (b + 8), .ref (b + 9), .ref (b + 10), fm_I 0, .ref (b + 11), .ref (b + 12), .ref (b + 13), fm_I 0, .ref (b + 14), .ref (b + 15), .ref (b + 16), .ref (b + 17), .ref (b + 18), .ref (b + 19), .ref (b + 20), .null]))) 21 (.inl (ct 0, 6, .inl (fun _ => Int32.ofInt 0)))) 0 (.inr (8, [fm_I 0, .ref (b + 1), .ref (b + 2), .ref (b + 3), .ref (b + 4), .ref (b + 5), .ref (b + 6), fm_I 0, .ref (b + 7), .ref (b + 8), .ref (b + 9), .ref (b + 10), fm_I 0, .ref (b + 11), .ref (b + 12), .ref (b + 13), fm_I 0, .ref (b + 14), .ref (b + 15), .ref (b + 16), .ref (b + 17), .ref (b + 18), .ref (b + 19), .ref (b + 20), .ref (b + 21)]))) 6 (.inl (ct 0, 4, .inl (upd (fun _ => Int32.ofInt 0) 1 (Int32.ofInt 20))))) 6 (.inl (ct 0, 4, .inl (upd (upd (fun _ => Int32.ofInt 0) 1 (Int32.ofInt 20)) 2 (Int32.ofInt 4))))) 6 (.inl (ct 0, 4, .inl (upd (upd (upd (fun _ => Int32.ofInt 0) 1 (Int32.ofInt 20)) 2 (Int32.ofInt 4)) 3 (Int32.ofInt 30))))
theorem nwE_X9_0 {D : va_G} {ct : Nat → ClassId} {b : Nat} {H : Heap} (h : va_at D vwCl (b + 0, nwG_X9 ct b 0) H) : va_at D vwCl (b + 0, nwF_X9 ct b 0) H := h
theorem nwE_X9_1 {D : va_G} {ct : Nat → ClassId} {b : Nat} {H : Heap} (h : va_at D vwCl (b + 1, nwG_X9 ct b 1) H) : va_at D vwCl (b + 1, nwF_X9 ct b 1) H := h
theorem nwE_X9_2 {D : va_G} {ct : Nat → ClassId} {b : Nat} {H : Heap} (h : va_at D vwCl (b + 2, nwG_X9 ct b 2) H) : va_at D vwCl (b + 2, nwF_X9 ct b 2) H := h
theorem nwE_X9_3 {D : va_G} {ct : Nat → ClassId} {b : Nat} {H : Heap} (h : va_at D vwCl (b + 3, nwG_X9 ct b 3) H) : va_at D vwCl (b + 3, nwF_X9 ct b 3) H := h
theorem nwE_X9_4 {D : va_G} {ct : Nat → ClassId} {b : Nat} {H : Heap} (h : va_at D vwCl (b + 4, nwG_X9 ct b 4) H) : va_at D vwCl (b + 4, nwF_X9 ct b 4) H := h
theorem nwE_X9_5 {D : va_G} {ct : Nat → ClassId} {b : Nat} {H : Heap} (h : va_at D vwCl (b + 5, nwG_X9 ct b 5) H) : va_at D vwCl (b + 5, nwF_X9 ct b 5) H := h
theorem nwE_X9_6 {D : va_G} {ct : Nat → ClassId} {b : Nat} {H : Heap} (h : va_at D vwCl (b + 6, nwG_X9 ct b 6) H) : va_at D vwCl (b + 6, nwF_X9 ct b 6) H := nw_ia (fun j hj => by rcases (show j = 0 ∨ j = 1 ∨ j = 2 ∨ j = 3 by omega) with rfl | rfl | rfl | rfl <;> rfl) h
theorem nwE_X9_7 {D : va_G} {ct : Nat → ClassId} {b : Nat} {H : Heap} (h : va_at D vwCl (b + 7, nwG_X9 ct b 7) H) : va_at D vwCl (b + 7, nwF_X9 ct b 7) H := h
theorem nwE_X9_8 {D : va_G} {ct : Nat → ClassId} {b : Nat} {H : Heap} (h : va_at D vwCl (b + 8, nwG_X9 ct b 8) H) : va_at D vwCl (b + 8, nwF_X9 ct b 8) H := h
theorem nwE_X9_9 {D : va_G} {ct : Nat → ClassId} {b : Nat} {H : Heap} (h : va_at D vwCl (b + 9, nwG_X9 ct b 9) H) : va_at D vwCl (b + 9, nwF_X9 ct b 9) H := h
theorem nwE_X9_10 {D : va_G} {ct : Nat → ClassId} {b : Nat} {H : Heap} (h : va_at D vwCl (b + 10, nwG_X9 ct b 10) H) : va_at D vwCl (b + 10, nwF_X9 ct b 10) H := h
theorem nwE_X9_11 {D : va_G} {ct : Nat → ClassId} {b : Nat} {H : Heap} (h : va_at D vwCl (b + 11, nwG_X9 ct b 11) H) : va_at D vwCl (b + 11, nwF_X9 ct b 11) H := h
theorem nwE_X9_12 {D : va_G} {ct : Nat → ClassId} {b : Nat} {H : Heap} (h : va_at D vwCl (b + 12, nwG_X9 ct b 12) H) : va_at D vwCl (b + 12, nwF_X9 ct b 12) H := h
theorem nwE_X9_13 {D : va_G} {ct : Nat → ClassId} {b : Nat} {H : Heap} (h : va_at D vwCl (b + 13, nwG_X9 ct b 13) H) : va_at D vwCl (b + 13, nwF_X9 ct b 13) H := h
theorem nwE_X9_14 {D : va_G} {ct : Nat → ClassId} {b : Nat} {H : Heap} (h : va_at D vwCl (b + 14, nwG_X9 ct b 14) H) : va_at D vwCl (b + 14, nwF_X9 ct b 14) H := h
theorem nwE_X9_15 {D : va_G} {ct : Nat → ClassId} {b : Nat} {H : Heap} (h : va_at D vwCl (b + 15, nwG_X9 ct b 15) H) : va_at D vwCl (b + 15, nwF_X9 ct b 15) H := h
theorem nwE_X9_16 {D : va_G} {ct : Nat → ClassId} {b : Nat} {H : Heap} (h : va_at D vwCl (b + 16, nwG_X9 ct b 16) H) : va_at D vwCl (b + 16, nwF_X9 ct b 16) H := h
theorem nwE_X9_17 {D : va_G} {ct : Nat → ClassId} {b : Nat} {H : Heap} (h : va_at D vwCl (b + 17, nwG_X9 ct b 17) H) : va_at D vwCl (b + 17, nwF_X9 ct b 17) H := h
theorem nwE_X9_18 {D : va_G} {ct : Nat → ClassId} {b : Nat} {H : Heap} (h : va_at D vwCl (b + 18, nwG_X9 ct b 18) H) : va_at D vwCl (b + 18, nwF_X9 ct b 18) H := h
theorem nwE_X9_19 {D : va_G} {ct : Nat → ClassId} {b : Nat} {H : Heap} (h : va_at D vwCl (b + 19, nwG_X9 ct b 19) H) : va_at D vwCl (b + 19, nwF_X9 ct b 19) H := h
theorem nwE_X9_20 {D : va_G} {ct : Nat → ClassId} {b : Nat} {H : Heap} (h : va_at D vwCl (b + 20, nwG_X9 ct b 20) H) : va_at D vwCl (b + 20, nwF_X9 ct b 20) H := h
theorem nwE_X9_21 {D : va_G} {ct : Nat → ClassId} {b : Nat} {H : Heap} (h : va_at D vwCl (b + 21, nwG_X9 ct b 21) H) : va_at D vwCl (b + 21, nwF_X9 ct b 21) H := h
set_option maxRecDepth 20000 in
theorem nwE_X9 {D : va_G} {ct : Nat → ClassId} {b : Nat} {H : Heap} : ∀ i, i < 22 → va_at D vwCl (b + i, nwG_X9 ct b i) H → va_at D vwCl (b + i, nwF_X9 ct b i) H := by
  intro i hi h
  rcases Nat.lt_succ_iff_lt_or_eq.mp hi with hi | e
  case inr => subst e; exact nwE_X9_21 h
  rcases Nat.lt_succ_iff_lt_or_eq.mp hi with hi | e
  case inr => subst e; exact nwE_X9_20 h
  rcases Nat.lt_succ_iff_lt_or_eq.mp hi with hi | e
  case inr => subst e; exact nwE_X9_19 h
  rcases Nat.lt_succ_iff_lt_or_eq.mp hi with hi | e
  case inr => subst e; exact nwE_X9_18 h
  rcases Nat.lt_succ_iff_lt_or_eq.mp hi with hi | e
  case inr => subst e; exact nwE_X9_17 h
  rcases Nat.lt_succ_iff_lt_or_eq.mp hi with hi | e
  case inr => subst e; exact nwE_X9_16 h
  rcases Nat.lt_succ_iff_lt_or_eq.mp hi with hi | e
  case inr => subst e; exact nwE_X9_15 h
  rcases Nat.lt_succ_iff_lt_or_eq.mp hi with hi | e
  case inr => subst e; exact nwE_X9_14 h
  rcases Nat.lt_succ_iff_lt_or_eq.mp hi with hi | e
  case inr => subst e; exact nwE_X9_13 h
  rcases Nat.lt_succ_iff_lt_or_eq.mp hi with hi | e
  case inr => subst e; exact nwE_X9_12 h
  rcases Nat.lt_succ_iff_lt_or_eq.mp hi with hi | e
  case inr => subst e; exact nwE_X9_11 h
  rcases Nat.lt_succ_iff_lt_or_eq.mp hi with hi | e
  case inr => subst e; exact nwE_X9_10 h
  rcases Nat.lt_succ_iff_lt_or_eq.mp hi with hi | e
  case inr => subst e; exact nwE_X9_9 h
  rcases Nat.lt_succ_iff_lt_or_eq.mp hi with hi | e
  case inr => subst e; exact nwE_X9_8 h
  rcases Nat.lt_succ_iff_lt_or_eq.mp hi with hi | e
  case inr => subst e; exact nwE_X9_7 h
  rcases Nat.lt_succ_iff_lt_or_eq.mp hi with hi | e
  case inr => subst e; exact nwE_X9_6 h
  rcases Nat.lt_succ_iff_lt_or_eq.mp hi with hi | e
  case inr => subst e; exact nwE_X9_5 h
  rcases Nat.lt_succ_iff_lt_or_eq.mp hi with hi | e
  case inr => subst e; exact nwE_X9_4 h
  rcases Nat.lt_succ_iff_lt_or_eq.mp hi with hi | e
  case inr => subst e; exact nwE_X9_3 h
  rcases Nat.lt_succ_iff_lt_or_eq.mp hi with hi | e
  case inr => subst e; exact nwE_X9_2 h
  rcases Nat.lt_succ_iff_lt_or_eq.mp hi with hi | e
  case inr => subst e; exact nwE_X9_1 h
  rcases Nat.lt_succ_iff_lt_or_eq.mp hi with hi | e
  case inr => subst e; exact nwE_X9_0 h
  omega
set_option maxRecDepth 20000 in
set_option maxHeartbeats 4000000 in
theorem k_X9_init {l : Launch} {D : va_G} {ct : Nat → ClassId} {b : Nat} : nw_Met l D ct yX9_init cX9_init 1 ({ frames := 1, cells := 21, slots := 3266, locals := 12 } : Room) [.ref b] b (.inr (8, [fm_I 0, .null, .null, .null, .null, .null, .null, fm_I 0, .null, .null, .null, .null, fm_I 0, .null, .null, .null, fm_I 0, .null, .null, .null, .null, .null, .null, .null, .null])) 22 (fun H => va_P D vwCl (nw_ws b 22 (nwF_X9 ct b)) H) := by
  refine nw_start (own := RX9) (by decide) rfl rfl (Nat.le_of_ble_eq_true rfl) [some (.ref b)] rfl (fun Γ hI => ?_)
  refine nw_aload dX9_init_0 rfl ?_
  refine nw_obj dX9_init_1 nq_ml_X9 nq_oi nq_oc (Nat.le_of_ble_eq_true rfl) (Nat.le_of_ble_eq_true rfl) ?_
  refine nw_aload dX9_init_4 rfl ?_
  refine nw_bipush (by decide) dX9_init_5 ?_
  refine nw_newI (N := 7) 2 1 7 rfl rfl rfl rfl (by decide) dX9_init_7 nq_ai (Nat.le_of_ble_eq_true rfl) (Nat.le_of_ble_eq_true rfl) ?_
  refine nw_putF (i := 0) (fs := [fm_I 0, .null, .null, .null, .null, .null, .null, fm_I 0, .null, .null, .null, .null, fm_I 0, .null, .null, .null, fm_I 0, .null, .null, .null, .null, .null, .null, .null, .null]) hI dX9_init_9 fd_X9_7 nq_f_X9_1 (by decide) rfl (Nat.le_of_ble_eq_true rfl) ?_
  refine nw_aload dX9_init_12 rfl ?_
  refine nw_sipush (by decide) dX9_init_13 ?_
  refine nw_newI (N := 280) 3 2 287 rfl rfl rfl rfl (by decide) dX9_init_16 nq_ai (Nat.le_of_ble_eq_true rfl) (Nat.le_of_ble_eq_true rfl) ?_
  refine nw_putF (i := 0) (fs := [fm_I 0, .ref (b + 1), .null, .null, .null, .null, .null, fm_I 0, .null, .null, .null, .null, fm_I 0, .null, .null, .null, fm_I 0, .null, .null, .null, .null, .null, .null, .null, .null]) hI dX9_init_18 fd_X9_13 nq_f_X9_2 (by decide) rfl (Nat.le_of_ble_eq_true rfl) ?_
  refine nw_aload dX9_init_21 rfl ?_
  refine nw_sipush (by decide) dX9_init_22 ?_
  refine nw_newI (N := 240) 4 3 527 rfl rfl rfl rfl (by decide) dX9_init_25 nq_ai (Nat.le_of_ble_eq_true rfl) (Nat.le_of_ble_eq_true rfl) ?_
  refine nw_putF (i := 0) (fs := [fm_I 0, .ref (b + 1), .ref (b + 2), .null, .null, .null, .null, fm_I 0, .null, .null, .null, .null, fm_I 0, .null, .null, .null, fm_I 0, .null, .null, .null, .null, .null, .null, .null, .null]) hI dX9_init_27 fd_X9_16 nq_f_X9_3 (by decide) rfl (Nat.le_of_ble_eq_true rfl) ?_
  refine nw_aload dX9_init_30 rfl ?_
  refine nw_sipush (by decide) dX9_init_31 ?_
  refine nw_newI (N := 240) 5 4 767 rfl rfl rfl rfl (by decide) dX9_init_34 nq_ai (Nat.le_of_ble_eq_true rfl) (Nat.le_of_ble_eq_true rfl) ?_
  refine nw_putF (i := 0) (fs := [fm_I 0, .ref (b + 1), .ref (b + 2), .ref (b + 3), .null, .null, .null, fm_I 0, .null, .null, .null, .null, fm_I 0, .null, .null, .null, fm_I 0, .null, .null, .null, .null, .null, .null, .null, .null]) hI dX9_init_36 fd_X9_19 nq_f_X9_4 (by decide) rfl (Nat.le_of_ble_eq_true rfl) ?_
  refine nw_aload dX9_init_39 rfl ?_
  refine nw_bipush (by decide) dX9_init_40 ?_
  refine nw_newI (N := 40) 6 5 807 rfl rfl rfl rfl (by decide) dX9_init_42 nq_ai (Nat.le_of_ble_eq_true rfl) (Nat.le_of_ble_eq_true rfl) ?_
  refine nw_putF (i := 0) (fs := [fm_I 0, .ref (b + 1), .ref (b + 2), .ref (b + 3), .ref (b + 4), .null, .null, fm_I 0, .null, .null, .null, .null, fm_I 0, .null, .null, .null, fm_I 0, .null, .null, .null, .null, .null, .null, .null, .null]) hI dX9_init_44 fd_X9_22 nq_f_X9_5 (by decide) rfl (Nat.le_of_ble_eq_true rfl) ?_
  refine nw_aload dX9_init_47 rfl ?_
  refine nw_iconst dX9_init_48 ?_
  refine nw_newI (N := 4) 7 6 811 rfl rfl rfl rfl (by decide) dX9_init_49 nq_ai (Nat.le_of_ble_eq_true rfl) (Nat.le_of_ble_eq_true rfl) ?_
  refine nw_putF (i := 0) (fs := [fm_I 0, .ref (b + 1), .ref (b + 2), .ref (b + 3), .ref (b + 4), .ref (b + 5), .null, fm_I 0, .null, .null, .null, .null, fm_I 0, .null, .null, .null, fm_I 0, .null, .null, .null, .null, .null, .null, .null, .null]) hI dX9_init_51 fd_X9_25 nq_f_X9_6 (by decide) rfl (Nat.le_of_ble_eq_true rfl) ?_
  refine nw_aload dX9_init_54 rfl ?_
  refine nw_bipush (by decide) dX9_init_55 ?_
  refine nw_newI (N := 12) 8 7 823 rfl rfl rfl rfl (by decide) dX9_init_57 nq_ai (Nat.le_of_ble_eq_true rfl) (Nat.le_of_ble_eq_true rfl) ?_
  refine nw_putF (i := 0) (fs := [fm_I 0, .ref (b + 1), .ref (b + 2), .ref (b + 3), .ref (b + 4), .ref (b + 5), .ref (b + 6), fm_I 0, .null, .null, .null, .null, fm_I 0, .null, .null, .null, fm_I 0, .null, .null, .null, .null, .null, .null, .null, .null]) hI dX9_init_59 fd_X9_28 nq_f_X9_8 (by decide) rfl (Nat.le_of_ble_eq_true rfl) ?_
  refine nw_aload dX9_init_62 rfl ?_
  refine nw_bipush (by decide) dX9_init_63 ?_
  refine nw_newI (N := 12) 9 8 835 rfl rfl rfl rfl (by decide) dX9_init_65 nq_ai (Nat.le_of_ble_eq_true rfl) (Nat.le_of_ble_eq_true rfl) ?_
  refine nw_putF (i := 0) (fs := [fm_I 0, .ref (b + 1), .ref (b + 2), .ref (b + 3), .ref (b + 4), .ref (b + 5), .ref (b + 6), fm_I 0, .ref (b + 7), .null, .null, .null, fm_I 0, .null, .null, .null, fm_I 0, .null, .null, .null, .null, .null, .null, .null, .null]) hI dX9_init_67 fd_X9_31 nq_f_X9_9 (by decide) rfl (Nat.le_of_ble_eq_true rfl) ?_
  refine nw_aload dX9_init_70 rfl ?_
  refine nw_bipush (by decide) dX9_init_71 ?_
  refine nw_newI (N := 12) 10 9 847 rfl rfl rfl rfl (by decide) dX9_init_73 nq_ai (Nat.le_of_ble_eq_true rfl) (Nat.le_of_ble_eq_true rfl) ?_
  refine nw_putF (i := 0) (fs := [fm_I 0, .ref (b + 1), .ref (b + 2), .ref (b + 3), .ref (b + 4), .ref (b + 5), .ref (b + 6), fm_I 0, .ref (b + 7), .ref (b + 8), .null, .null, fm_I 0, .null, .null, .null, fm_I 0, .null, .null, .null, .null, .null, .null, .null, .null]) hI dX9_init_75 fd_X9_34 nq_f_X9_10 (by decide) rfl (Nat.le_of_ble_eq_true rfl) ?_
  refine nw_aload dX9_init_78 rfl ?_
  refine nw_bipush (by decide) dX9_init_79 ?_
  refine nw_newI (N := 12) 11 10 859 rfl rfl rfl rfl (by decide) dX9_init_81 nq_ai (Nat.le_of_ble_eq_true rfl) (Nat.le_of_ble_eq_true rfl) ?_
  refine nw_putF (i := 0) (fs := [fm_I 0, .ref (b + 1), .ref (b + 2), .ref (b + 3), .ref (b + 4), .ref (b + 5), .ref (b + 6), fm_I 0, .ref (b + 7), .ref (b + 8), .ref (b + 9), .null, fm_I 0, .null, .null, .null, fm_I 0, .null, .null, .null, .null, .null, .null, .null, .null]) hI dX9_init_83 fd_X9_37 nq_f_X9_11 (by decide) rfl (Nat.le_of_ble_eq_true rfl) ?_
  refine nw_aload dX9_init_86 rfl ?_
  refine nw_bipush (by decide) dX9_init_87 ?_
  refine nw_newI (N := 20) 12 11 879 rfl rfl rfl rfl (by decide) dX9_init_89 nq_ai (Nat.le_of_ble_eq_true rfl) (Nat.le_of_ble_eq_true rfl) ?_
  refine nw_putF (i := 0) (fs := [fm_I 0, .ref (b + 1), .ref (b + 2), .ref (b + 3), .ref (b + 4), .ref (b + 5), .ref (b + 6), fm_I 0, .ref (b + 7), .ref (b + 8), .ref (b + 9), .ref (b + 10), fm_I 0, .null, .null, .null, fm_I 0, .null, .null, .null, .null, .null, .null, .null, .null]) hI dX9_init_91 fd_X9_40 nq_f_X9_13 (by decide) rfl (Nat.le_of_ble_eq_true rfl) ?_
  refine nw_aload dX9_init_94 rfl ?_
  refine nw_bipush (by decide) dX9_init_95 ?_
  refine nw_newI (N := 20) 13 12 899 rfl rfl rfl rfl (by decide) dX9_init_97 nq_ai (Nat.le_of_ble_eq_true rfl) (Nat.le_of_ble_eq_true rfl) ?_
  refine nw_putF (i := 0) (fs := [fm_I 0, .ref (b + 1), .ref (b + 2), .ref (b + 3), .ref (b + 4), .ref (b + 5), .ref (b + 6), fm_I 0, .ref (b + 7), .ref (b + 8), .ref (b + 9), .ref (b + 10), fm_I 0, .ref (b + 11), .null, .null, fm_I 0, .null, .null, .null, .null, .null, .null, .null, .null]) hI dX9_init_99 fd_X9_43 nq_f_X9_14 (by decide) rfl (Nat.le_of_ble_eq_true rfl) ?_
  refine nw_aload dX9_init_102 rfl ?_
  refine nw_bipush (by decide) dX9_init_103 ?_
  refine nw_newI (N := 20) 14 13 919 rfl rfl rfl rfl (by decide) dX9_init_105 nq_ai (Nat.le_of_ble_eq_true rfl) (Nat.le_of_ble_eq_true rfl) ?_
  refine nw_putF (i := 0) (fs := [fm_I 0, .ref (b + 1), .ref (b + 2), .ref (b + 3), .ref (b + 4), .ref (b + 5), .ref (b + 6), fm_I 0, .ref (b + 7), .ref (b + 8), .ref (b + 9), .ref (b + 10), fm_I 0, .ref (b + 11), .ref (b + 12), .null, fm_I 0, .null, .null, .null, .null, .null, .null, .null, .null]) hI dX9_init_107 fd_X9_46 nq_f_X9_15 (by decide) rfl (Nat.le_of_ble_eq_true rfl) ?_
  refine nw_aload dX9_init_110 rfl ?_
  refine nw_bipush (by decide) dX9_init_111 ?_
  refine nw_newI (N := 30) 15 14 949 rfl rfl rfl rfl (by decide) dX9_init_113 nq_ai (Nat.le_of_ble_eq_true rfl) (Nat.le_of_ble_eq_true rfl) ?_
  refine nw_putF (i := 0) (fs := [fm_I 0, .ref (b + 1), .ref (b + 2), .ref (b + 3), .ref (b + 4), .ref (b + 5), .ref (b + 6), fm_I 0, .ref (b + 7), .ref (b + 8), .ref (b + 9), .ref (b + 10), fm_I 0, .ref (b + 11), .ref (b + 12), .ref (b + 13), fm_I 0, .null, .null, .null, .null, .null, .null, .null, .null]) hI dX9_init_115 fd_X9_49 nq_f_X9_17 (by decide) rfl (Nat.le_of_ble_eq_true rfl) ?_
  refine nw_aload dX9_init_118 rfl ?_
  refine nw_bipush (by decide) dX9_init_119 ?_
  refine nw_newI (N := 30) 16 15 979 rfl rfl rfl rfl (by decide) dX9_init_121 nq_ai (Nat.le_of_ble_eq_true rfl) (Nat.le_of_ble_eq_true rfl) ?_
  refine nw_putF (i := 0) (fs := [fm_I 0, .ref (b + 1), .ref (b + 2), .ref (b + 3), .ref (b + 4), .ref (b + 5), .ref (b + 6), fm_I 0, .ref (b + 7), .ref (b + 8), .ref (b + 9), .ref (b + 10), fm_I 0, .ref (b + 11), .ref (b + 12), .ref (b + 13), fm_I 0, .ref (b + 14), .null, .null, .null, .null, .null, .null, .null]) hI dX9_init_123 fd_X9_52 nq_f_X9_18 (by decide) rfl (Nat.le_of_ble_eq_true rfl) ?_
  refine nw_aload dX9_init_126 rfl ?_
  refine nw_sipush (by decide) dX9_init_127 ?_
  refine nw_newI (N := 1681) 17 16 2660 rfl rfl rfl rfl (by decide) dX9_init_130 nq_ai (Nat.le_of_ble_eq_true rfl) (Nat.le_of_ble_eq_true rfl) ?_
  refine nw_putF (i := 0) (fs := [fm_I 0, .ref (b + 1), .ref (b + 2), .ref (b + 3), .ref (b + 4), .ref (b + 5), .ref (b + 6), fm_I 0, .ref (b + 7), .ref (b + 8), .ref (b + 9), .ref (b + 10), fm_I 0, .ref (b + 11), .ref (b + 12), .ref (b + 13), fm_I 0, .ref (b + 14), .ref (b + 15), .null, .null, .null, .null, .null, .null]) hI dX9_init_132 fd_X9_55 nq_f_X9_19 (by decide) rfl (Nat.le_of_ble_eq_true rfl) ?_
  refine nw_aload dX9_init_135 rfl ?_
  refine nw_bipush (by decide) dX9_init_136 ?_
  refine nw_newI (N := 40) 18 17 2700 rfl rfl rfl rfl (by decide) dX9_init_138 nq_ai (Nat.le_of_ble_eq_true rfl) (Nat.le_of_ble_eq_true rfl) ?_
  refine nw_putF (i := 0) (fs := [fm_I 0, .ref (b + 1), .ref (b + 2), .ref (b + 3), .ref (b + 4), .ref (b + 5), .ref (b + 6), fm_I 0, .ref (b + 7), .ref (b + 8), .ref (b + 9), .ref (b + 10), fm_I 0, .ref (b + 11), .ref (b + 12), .ref (b + 13), fm_I 0, .ref (b + 14), .ref (b + 15), .ref (b + 16), .null, .null, .null, .null, .null]) hI dX9_init_140 fd_X9_58 nq_f_X9_20 (by decide) rfl (Nat.le_of_ble_eq_true rfl) ?_
  refine nw_aload dX9_init_143 rfl ?_
  refine nw_sipush (by decide) dX9_init_144 ?_
  refine nw_newI (N := 240) 19 18 2940 rfl rfl rfl rfl (by decide) dX9_init_147 nq_ai (Nat.le_of_ble_eq_true rfl) (Nat.le_of_ble_eq_true rfl) ?_
  refine nw_putF (i := 0) (fs := [fm_I 0, .ref (b + 1), .ref (b + 2), .ref (b + 3), .ref (b + 4), .ref (b + 5), .ref (b + 6), fm_I 0, .ref (b + 7), .ref (b + 8), .ref (b + 9), .ref (b + 10), fm_I 0, .ref (b + 11), .ref (b + 12), .ref (b + 13), fm_I 0, .ref (b + 14), .ref (b + 15), .ref (b + 16), .ref (b + 17), .null, .null, .null, .null]) hI dX9_init_149 fd_X9_61 nq_f_X9_21 (by decide) rfl (Nat.le_of_ble_eq_true rfl) ?_
  refine nw_aload dX9_init_152 rfl ?_
  refine nw_sipush (by decide) dX9_init_153 ?_
  refine nw_newI (N := 280) 20 19 3220 rfl rfl rfl rfl (by decide) dX9_init_156 nq_ai (Nat.le_of_ble_eq_true rfl) (Nat.le_of_ble_eq_true rfl) ?_
  refine nw_putF (i := 0) (fs := [fm_I 0, .ref (b + 1), .ref (b + 2), .ref (b + 3), .ref (b + 4), .ref (b + 5), .ref (b + 6), fm_I 0, .ref (b + 7), .ref (b + 8), .ref (b + 9), .ref (b + 10), fm_I 0, .ref (b + 11), .ref (b + 12), .ref (b + 13), fm_I 0, .ref (b + 14), .ref (b + 15), .ref (b + 16), .ref (b + 17), .ref (b + 18), .null, .null, .null]) hI dX9_init_158 fd_X9_64 nq_f_X9_22 (by decide) rfl (Nat.le_of_ble_eq_true rfl) ?_
  refine nw_aload dX9_init_161 rfl ?_
  refine nw_bipush (by decide) dX9_init_162 ?_
  refine nw_newI (N := 40) 21 20 3260 rfl rfl rfl rfl (by decide) dX9_init_164 nq_ai (Nat.le_of_ble_eq_true rfl) (Nat.le_of_ble_eq_true rfl) ?_
  refine nw_putF (i := 0) (fs := [fm_I 0, .ref (b + 1), .ref (b + 2), .ref (b + 3), .ref (b + 4), .ref (b + 5), .ref (b + 6), fm_I 0, .ref (b + 7), .ref (b + 8), .ref (b + 9), .ref (b + 10), fm_I 0, .ref (b + 11), .ref (b + 12), .ref (b + 13), fm_I 0, .ref (b + 14), .ref (b + 15), .ref (b + 16), .ref (b + 17), .ref (b + 18), .ref (b + 19), .null, .null]) hI dX9_init_166 fd_X9_67 nq_f_X9_23 (by decide) rfl (Nat.le_of_ble_eq_true rfl) ?_
  refine nw_aload dX9_init_169 rfl ?_
  refine nw_bipush (by decide) dX9_init_170 ?_
  refine nw_newI (N := 6) 22 21 3266 rfl rfl rfl rfl (by decide) dX9_init_172 nq_ai (Nat.le_of_ble_eq_true rfl) (Nat.le_of_ble_eq_true rfl) ?_
  refine nw_putF (i := 0) (fs := [fm_I 0, .ref (b + 1), .ref (b + 2), .ref (b + 3), .ref (b + 4), .ref (b + 5), .ref (b + 6), fm_I 0, .ref (b + 7), .ref (b + 8), .ref (b + 9), .ref (b + 10), fm_I 0, .ref (b + 11), .ref (b + 12), .ref (b + 13), fm_I 0, .ref (b + 14), .ref (b + 15), .ref (b + 16), .ref (b + 17), .ref (b + 18), .ref (b + 19), .ref (b + 20), .null]) hI dX9_init_174 fd_X9_70 nq_f_X9_24 (by decide) rfl (Nat.le_of_ble_eq_true rfl) ?_
  refine nw_aload dX9_init_177 rfl ?_
  refine nw_getR (i := 0) (a := b + 6) (fs := [fm_I 0, .ref (b + 1), .ref (b + 2), .ref (b + 3), .ref (b + 4), .ref (b + 5), .ref (b + 6), fm_I 0, .ref (b + 7), .ref (b + 8), .ref (b + 9), .ref (b + 10), fm_I 0, .ref (b + 11), .ref (b + 12), .ref (b + 13), fm_I 0, .ref (b + 14), .ref (b + 15), .ref (b + 16), .ref (b + 17), .ref (b + 18), .ref (b + 19), .ref (b + 20), .ref (b + 21)]) dX9_init_178 fd_X9_25 (by decide) rfl rfl ?_
  refine nw_iconst dX9_init_181 ?_
  refine nw_bipush (by decide) dX9_init_182 ?_
  refine nw_iast (i := 6) (N := 4) dX9_init_184 (by decide) rfl (by decide) (by decide) (by decide) ?_
  refine nw_aload dX9_init_185 rfl ?_
  refine nw_getR (i := 0) (a := b + 6) (fs := [fm_I 0, .ref (b + 1), .ref (b + 2), .ref (b + 3), .ref (b + 4), .ref (b + 5), .ref (b + 6), fm_I 0, .ref (b + 7), .ref (b + 8), .ref (b + 9), .ref (b + 10), fm_I 0, .ref (b + 11), .ref (b + 12), .ref (b + 13), fm_I 0, .ref (b + 14), .ref (b + 15), .ref (b + 16), .ref (b + 17), .ref (b + 18), .ref (b + 19), .ref (b + 20), .ref (b + 21)]) dX9_init_186 fd_X9_25 (by decide) rfl rfl ?_
  refine nw_iconst dX9_init_189 ?_
  refine nw_iconst dX9_init_190 ?_
  refine nw_iast (i := 6) (N := 4) dX9_init_191 (by decide) rfl (by decide) (by decide) (by decide) ?_
  refine nw_aload dX9_init_192 rfl ?_
  refine nw_getR (i := 0) (a := b + 6) (fs := [fm_I 0, .ref (b + 1), .ref (b + 2), .ref (b + 3), .ref (b + 4), .ref (b + 5), .ref (b + 6), fm_I 0, .ref (b + 7), .ref (b + 8), .ref (b + 9), .ref (b + 10), fm_I 0, .ref (b + 11), .ref (b + 12), .ref (b + 13), fm_I 0, .ref (b + 14), .ref (b + 15), .ref (b + 16), .ref (b + 17), .ref (b + 18), .ref (b + 19), .ref (b + 20), .ref (b + 21)]) dX9_init_193 fd_X9_25 (by decide) rfl rfl ?_
  refine nw_iconst dX9_init_196 ?_
  refine nw_bipush (by decide) dX9_init_197 ?_
  refine nw_iast (i := 6) (N := 4) dX9_init_199 (by decide) rfl (by decide) (by decide) (by decide) ?_
  exact nw_vret hI rfl dX9_init_200 (fun H hP => nw_P (fun i hi => nwE_X9 i hi (hP i _ (nw_at hi))))
