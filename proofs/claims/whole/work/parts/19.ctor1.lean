set_option maxHeartbeats 4000000 in
set_option maxRecDepth 100000 in
theorem c_X1_init (l : Launch) (D : va_G) (kI kJ kL : ClassId) (h0 sz : Nat) : Met l yX1_init wsX1_init ({ frames := 1, cells := 7, slots := 1554, locals := 12 }) (va_Pc [.ref h0] (fun U => U.heap.size = sz ∧ va_P D vwCl ([(h0, .inr (4, [.null, .null, .null, .null, .null, .int 0, .null, .int 0, .null]))]) U.heap ∧ va_K D vwCl (xTY kI kJ kL) U ∧ va_D (fun _ => True) ([(h0, .inr (4, [.null, .null, .null, .null, .null, .int 0, .null, .int 0, .null]))]) ∧ xNest U ∧ va_AO RX0 U)) (va_Qv (fun u : Nat → Nat => u 0 = h0) (q_wB D (xTY kI kJ kL) ([(h0, .inr (4, [.null, .null, .null, .null, .null, .int 0, .null, .int 0, .null]))]) sz (fun u : Nat → Nat => xW kI kL u u S00 N00 (fun _ => none) 0)) (va_A ([(h0, .inr (4, [.null, .null, .null, .null, .null, .int 0, .null, .int 0, .null]))]) sz)) 7 1554 (va_A ([(h0, .inr (4, [.null, .null, .null, .null, .null, .int 0, .null, .int 0, .null]))]) sz) := by
  refine Met.ofW (cc := cX1_init) (maxL := 1) (ret := none) (by decide) rfl ?_
  intro p e s m args below meth c s₁ Bd hml hv
  obtain ⟨rfl, hsz, hP, hK, hD0, hN, hAO⟩ := hv
  have hx := Bd.exec
  have hb := Bd.bytes
  have hr := Bd.returns
  have hts := atoms_spec (ws := wsX1_init) Bd.pre
  have hown : s.vm.findClass RX1 = some m.cls := findClass_of_methodNamed Bd.named
  have hlocks := Bd.notSynchronized
  subst hsz
  have hD := hD0.self (sz := s.heap.size)
  generalize hAe : va_A ([(h0, .inr (4, [.null, .null, .null, .null, .null, .int 0, .null, .int 0, .null]))]) s.heap.size = A at hD ⊢
  have hA : ∀ q : Nat, s.heap.size ≤ q → A q := fun q h => by rw [← hAe]; exact Or.inr h
  have hS : va_S A s.heap s.heap [] := va_S.rf
  have hl := lv_entry ([.ref h0]) (n := 1) (Nat.le_of_ble_eq_true rfl)
  rw [lg_entry_eq]
  generalize (lg_sl ([.ref h0]) ++ List.replicate (1 - (lg_sl ([.ref h0])).length) Slot.unset).toArray = ls at hl ⊢
  have hl : lv_has ls 1 [(0, .ref h0)] := hl
  have hinX1 : ∀ w ∈ u_ws RX1 TX1 9, w ∈ wsX1_init := by decide +kernel
  have hin : meth.name = "<init>" := (name_of_methodNamed Bd.named Bd.method).1
  refine lv_aload_n hx hb dX1_init_0 rfl (lv_at hl 0 rfl) ?_
  refine W.objInit hx hb hown (hts (.methodLink RX1 1 objectInit) (by decide +kernel)) (hts (.instanceMethod objectInit) (by decide +kernel)) (hts (.code objectInit ⟨#[0xb1]⟩ 1 none) (by decide +kernel)) rfl (by rw [hml]; exact hl.1) rfl dX1_init_1 (Nat.le_of_ble_eq_true rfl) (Nat.le_of_ble_eq_true rfl) ?_
  refine W.eq (g2 := F0 m 4 ls []) rfl ?_
  refine lv_aload_n hx hb dX1_init_4 rfl (lv_at hl 0 rfl) ?_
  refine lv_bipush (v := 110) hx hb dX1_init_5 (by decide) ?_
  refine va_newa (atype := .int) (ty := .int) (n := 110) (N' := 110) (a0 := (110, .inl (fun _ => 0))) hx hb (hts (.arrayClass .int) (by decide +kernel)) rfl hK hP hD hS hA (fun _ => rfl) (by decide) (by decide) (by decide) (Nat.le_of_ble_eq_true rfl) (Nat.le_of_ble_eq_true rfl) dX1_init_7 (fun q7 cA H hK1 hP hD hS => ?_)
  rw [cA_int hK1] at hP hD
  clear hK1
  have hP : va_P D vwCl ([(h0, .inr (4, [.null, .null, .null, .null, .null, .int 0, .null, .int 0, .null])), (q7, .inl (kI, 110, .inl (fun _ => 0)))]) H := hP
  have hD : va_D A ([(h0, .inr (4, [.null, .null, .null, .null, .null, .int 0, .null, .int 0, .null])), (q7, .inl (kI, 110, .inl (fun _ => 0)))]) := hD
  refine W.widen (k := 1) (n := 110) (by omega) (by omega) ?_
  refine va_putF (D := D) (ci := 4) (v := .ref q7) (ty := .array .int) (C := RX1) (T := TX1) (N := 9) hx hb hts hinX1 tyX1 tyX1_ok nmX1 hown hK hP hD hS 0 rfl rfl 0 (by decide) (hts (.fieldLink RX1 9 "LoanCases" "forms" "[I") (by decide +kernel)) (fun _ h9 => h9) rfl hin rfl (by decide +kernel) rfl rfl (Nat.le_of_ble_eq_true rfl) dX1_init_9 (fun H locs hP hD hS => ?_)
  have hP : va_P D vwCl ([(h0, .inr (4, [.ref q7, .null, .null, .null, .null, .int 0, .null, .int 0, .null])), (q7, .inl (kI, 110, .inl (fun _ => 0)))]) H := hP
  have hD : va_D A ([(h0, .inr (4, [.ref q7, .null, .null, .null, .null, .int 0, .null, .int 0, .null])), (q7, .inl (kI, 110, .inl (fun _ => 0)))]) := hD
  refine lv_aload_n hx hb dX1_init_12 rfl (lv_at hl 0 rfl) ?_
  refine lv_bipush (v := 110) hx hb dX1_init_13 (by decide) ?_
  refine va_newa (atype := .int) (ty := .int) (n := 110) (N' := 110) (a0 := (110, .inl (fun _ => 0))) hx hb (hts (.arrayClass .int) (by decide +kernel)) rfl hK hP hD hS hA (fun _ => rfl) (by decide) (by decide) (by decide) (Nat.le_of_ble_eq_true rfl) (Nat.le_of_ble_eq_true rfl) dX1_init_15 (fun q15 cA H hK1 hP hD hS => ?_)
  rw [cA_int hK1] at hP hD
  clear hK1
  have hP : va_P D vwCl ([(h0, .inr (4, [.ref q7, .null, .null, .null, .null, .int 0, .null, .int 0, .null])), (q7, .inl (kI, 110, .inl (fun _ => 0))), (q15, .inl (kI, 110, .inl (fun _ => 0)))]) H := hP
  have hD : va_D A ([(h0, .inr (4, [.ref q7, .null, .null, .null, .null, .int 0, .null, .int 0, .null])), (q7, .inl (kI, 110, .inl (fun _ => 0))), (q15, .inl (kI, 110, .inl (fun _ => 0)))]) := hD
  refine W.widen (k := 2) (n := 220) (by omega) (by omega) ?_
  refine va_putF (D := D) (ci := 4) (v := .ref q15) (ty := .array .int) (C := RX1) (T := TX1) (N := 9) hx hb hts hinX1 tyX1 tyX1_ok nmX1 hown hK hP hD hS 0 rfl rfl 1 (by decide) (hts (.fieldLink RX1 13 "LoanCases" "years" "[I") (by decide +kernel)) (fun _ h9 => h9) rfl hin rfl (by decide +kernel) rfl rfl (Nat.le_of_ble_eq_true rfl) dX1_init_17 (fun H locs hP hD hS => ?_)
  have hP : va_P D vwCl ([(h0, .inr (4, [.ref q7, .ref q15, .null, .null, .null, .int 0, .null, .int 0, .null])), (q7, .inl (kI, 110, .inl (fun _ => 0))), (q15, .inl (kI, 110, .inl (fun _ => 0)))]) H := hP
  have hD : va_D A ([(h0, .inr (4, [.ref q7, .ref q15, .null, .null, .null, .int 0, .null, .int 0, .null])), (q7, .inl (kI, 110, .inl (fun _ => 0))), (q15, .inl (kI, 110, .inl (fun _ => 0)))]) := hD
  refine lv_aload_n hx hb dX1_init_20 rfl (lv_at hl 0 rfl) ?_
  refine lv_bipush (v := 110) hx hb dX1_init_21 (by decide) ?_
  refine va_newa (atype := .int) (ty := .int) (n := 110) (N' := 110) (a0 := (110, .inl (fun _ => 0))) hx hb (hts (.arrayClass .int) (by decide +kernel)) rfl hK hP hD hS hA (fun _ => rfl) (by decide) (by decide) (by decide) (Nat.le_of_ble_eq_true rfl) (Nat.le_of_ble_eq_true rfl) dX1_init_23 (fun q23 cA H hK1 hP hD hS => ?_)
  rw [cA_int hK1] at hP hD
  clear hK1
  have hP : va_P D vwCl ([(h0, .inr (4, [.ref q7, .ref q15, .null, .null, .null, .int 0, .null, .int 0, .null])), (q7, .inl (kI, 110, .inl (fun _ => 0))), (q15, .inl (kI, 110, .inl (fun _ => 0))), (q23, .inl (kI, 110, .inl (fun _ => 0)))]) H := hP
  have hD : va_D A ([(h0, .inr (4, [.ref q7, .ref q15, .null, .null, .null, .int 0, .null, .int 0, .null])), (q7, .inl (kI, 110, .inl (fun _ => 0))), (q15, .inl (kI, 110, .inl (fun _ => 0))), (q23, .inl (kI, 110, .inl (fun _ => 0)))]) := hD
  refine W.widen (k := 3) (n := 330) (by omega) (by omega) ?_
  refine va_putF (D := D) (ci := 4) (v := .ref q23) (ty := .array .int) (C := RX1) (T := TX1) (N := 9) hx hb hts hinX1 tyX1 tyX1_ok nmX1 hown hK hP hD hS 0 rfl rfl 2 (by decide) (hts (.fieldLink RX1 16 "LoanCases" "sizes" "[I") (by decide +kernel)) (fun _ h9 => h9) rfl hin rfl (by decide +kernel) rfl rfl (Nat.le_of_ble_eq_true rfl) dX1_init_25 (fun H locs hP hD hS => ?_)
  have hP : va_P D vwCl ([(h0, .inr (4, [.ref q7, .ref q15, .ref q23, .null, .null, .int 0, .null, .int 0, .null])), (q7, .inl (kI, 110, .inl (fun _ => 0))), (q15, .inl (kI, 110, .inl (fun _ => 0))), (q23, .inl (kI, 110, .inl (fun _ => 0)))]) H := hP
  have hD : va_D A ([(h0, .inr (4, [.ref q7, .ref q15, .ref q23, .null, .null, .int 0, .null, .int 0, .null])), (q7, .inl (kI, 110, .inl (fun _ => 0))), (q15, .inl (kI, 110, .inl (fun _ => 0))), (q23, .inl (kI, 110, .inl (fun _ => 0)))]) := hD
  refine lv_aload_n hx hb dX1_init_28 rfl (lv_at hl 0 rfl) ?_
  refine lv_bipush (v := 110) hx hb dX1_init_29 (by decide) ?_
  refine va_newa (atype := .int) (ty := .int) (n := 110) (N' := 110) (a0 := (110, .inl (fun _ => 0))) hx hb (hts (.arrayClass .int) (by decide +kernel)) rfl hK hP hD hS hA (fun _ => rfl) (by decide) (by decide) (by decide) (Nat.le_of_ble_eq_true rfl) (Nat.le_of_ble_eq_true rfl) dX1_init_31 (fun q31 cA H hK1 hP hD hS => ?_)
  rw [cA_int hK1] at hP hD
  clear hK1
  have hP : va_P D vwCl ([(h0, .inr (4, [.ref q7, .ref q15, .ref q23, .null, .null, .int 0, .null, .int 0, .null])), (q7, .inl (kI, 110, .inl (fun _ => 0))), (q15, .inl (kI, 110, .inl (fun _ => 0))), (q23, .inl (kI, 110, .inl (fun _ => 0))), (q31, .inl (kI, 110, .inl (fun _ => 0)))]) H := hP
  have hD : va_D A ([(h0, .inr (4, [.ref q7, .ref q15, .ref q23, .null, .null, .int 0, .null, .int 0, .null])), (q7, .inl (kI, 110, .inl (fun _ => 0))), (q15, .inl (kI, 110, .inl (fun _ => 0))), (q23, .inl (kI, 110, .inl (fun _ => 0))), (q31, .inl (kI, 110, .inl (fun _ => 0)))]) := hD
  refine W.widen (k := 4) (n := 440) (by omega) (by omega) ?_
  refine va_putF (D := D) (ci := 4) (v := .ref q31) (ty := .array .int) (C := RX1) (T := TX1) (N := 9) hx hb hts hinX1 tyX1 tyX1_ok nmX1 hown hK hP hD hS 0 rfl rfl 3 (by decide) (hts (.fieldLink RX1 19 "LoanCases" "holds" "[I") (by decide +kernel)) (fun _ h9 => h9) rfl hin rfl (by decide +kernel) rfl rfl (Nat.le_of_ble_eq_true rfl) dX1_init_33 (fun H locs hP hD hS => ?_)
  have hP : va_P D vwCl ([(h0, .inr (4, [.ref q7, .ref q15, .ref q23, .ref q31, .null, .int 0, .null, .int 0, .null])), (q7, .inl (kI, 110, .inl (fun _ => 0))), (q15, .inl (kI, 110, .inl (fun _ => 0))), (q23, .inl (kI, 110, .inl (fun _ => 0))), (q31, .inl (kI, 110, .inl (fun _ => 0)))]) H := hP
  have hD : va_D A ([(h0, .inr (4, [.ref q7, .ref q15, .ref q23, .ref q31, .null, .int 0, .null, .int 0, .null])), (q7, .inl (kI, 110, .inl (fun _ => 0))), (q15, .inl (kI, 110, .inl (fun _ => 0))), (q23, .inl (kI, 110, .inl (fun _ => 0))), (q31, .inl (kI, 110, .inl (fun _ => 0)))]) := hD
  refine lv_aload_n hx hb dX1_init_36 rfl (lv_at hl 0 rfl) ?_
  refine lv_sipush (v := 1100) hx hb dX1_init_37 (by decide) ?_
  refine va_newa (atype := .int) (ty := .int) (n := 1100) (N' := 1100) (a0 := (1100, .inl (fun _ => 0))) hx hb (hts (.arrayClass .int) (by decide +kernel)) rfl hK hP hD hS hA (fun _ => rfl) (by decide) (by decide) (by decide) (Nat.le_of_ble_eq_true rfl) (Nat.le_of_ble_eq_true rfl) dX1_init_40 (fun q40 cA H hK1 hP hD hS => ?_)
  rw [cA_int hK1] at hP hD
  clear hK1
  have hP : va_P D vwCl ([(h0, .inr (4, [.ref q7, .ref q15, .ref q23, .ref q31, .null, .int 0, .null, .int 0, .null])), (q7, .inl (kI, 110, .inl (fun _ => 0))), (q15, .inl (kI, 110, .inl (fun _ => 0))), (q23, .inl (kI, 110, .inl (fun _ => 0))), (q31, .inl (kI, 110, .inl (fun _ => 0))), (q40, .inl (kI, 1100, .inl (fun _ => 0)))]) H := hP
  have hD : va_D A ([(h0, .inr (4, [.ref q7, .ref q15, .ref q23, .ref q31, .null, .int 0, .null, .int 0, .null])), (q7, .inl (kI, 110, .inl (fun _ => 0))), (q15, .inl (kI, 110, .inl (fun _ => 0))), (q23, .inl (kI, 110, .inl (fun _ => 0))), (q31, .inl (kI, 110, .inl (fun _ => 0))), (q40, .inl (kI, 1100, .inl (fun _ => 0)))]) := hD
  refine W.widen (k := 5) (n := 1540) (by omega) (by omega) ?_
  refine va_putF (D := D) (ci := 4) (v := .ref q40) (ty := .array .int) (C := RX1) (T := TX1) (N := 9) hx hb hts hinX1 tyX1 tyX1_ok nmX1 hown hK hP hD hS 0 rfl rfl 4 (by decide) (hts (.fieldLink RX1 22 "LoanCases" "places" "[I") (by decide +kernel)) (fun _ h9 => h9) rfl hin rfl (by decide +kernel) rfl rfl (Nat.le_of_ble_eq_true rfl) dX1_init_42 (fun H locs hP hD hS => ?_)
  have hP : va_P D vwCl ([(h0, .inr (4, [.ref q7, .ref q15, .ref q23, .ref q31, .ref q40, .int 0, .null, .int 0, .null])), (q7, .inl (kI, 110, .inl (fun _ => 0))), (q15, .inl (kI, 110, .inl (fun _ => 0))), (q23, .inl (kI, 110, .inl (fun _ => 0))), (q31, .inl (kI, 110, .inl (fun _ => 0))), (q40, .inl (kI, 1100, .inl (fun _ => 0)))]) H := hP
  have hD : va_D A ([(h0, .inr (4, [.ref q7, .ref q15, .ref q23, .ref q31, .ref q40, .int 0, .null, .int 0, .null])), (q7, .inl (kI, 110, .inl (fun _ => 0))), (q15, .inl (kI, 110, .inl (fun _ => 0))), (q23, .inl (kI, 110, .inl (fun _ => 0))), (q31, .inl (kI, 110, .inl (fun _ => 0))), (q40, .inl (kI, 1100, .inl (fun _ => 0)))]) := hD
  refine lv_aload_n hx hb dX1_init_45 rfl (lv_at hl 0 rfl) ?_
  refine lv_bipush (v := 8) hx hb dX1_init_46 (by decide) ?_
  refine va_newq hx hb hown (hts (.classLink RX1 25 RX0) (by decide +kernel)) hAO hK hP hD hS hA (n := 8) (N' := 8) (by decide) (by decide) (by decide) (Nat.le_of_ble_eq_true rfl) (Nat.le_of_ble_eq_true rfl) dX1_init_48 (fun q48 cA H hK1 hP hD hS => ?_)
  rw [cA_loan hK1] at hP hD
  clear hK1
  have hP : va_P D vwCl ([(h0, .inr (4, [.ref q7, .ref q15, .ref q23, .ref q31, .ref q40, .int 0, .null, .int 0, .null])), (q7, .inl (kI, 110, .inl (fun _ => 0))), (q15, .inl (kI, 110, .inl (fun _ => 0))), (q23, .inl (kI, 110, .inl (fun _ => 0))), (q31, .inl (kI, 110, .inl (fun _ => 0))), (q40, .inl (kI, 1100, .inl (fun _ => 0))), (q48, .inl (kL, 8, .inr (.inr (.inr (.inr (fun _ => none))))))]) H := hP
  have hD : va_D A ([(h0, .inr (4, [.ref q7, .ref q15, .ref q23, .ref q31, .ref q40, .int 0, .null, .int 0, .null])), (q7, .inl (kI, 110, .inl (fun _ => 0))), (q15, .inl (kI, 110, .inl (fun _ => 0))), (q23, .inl (kI, 110, .inl (fun _ => 0))), (q31, .inl (kI, 110, .inl (fun _ => 0))), (q40, .inl (kI, 1100, .inl (fun _ => 0))), (q48, .inl (kL, 8, .inr (.inr (.inr (.inr (fun _ => none))))))]) := hD
  refine W.widen (k := 6) (n := 1548) (by omega) (by omega) ?_
  refine va_putF (D := D) (ci := 4) (v := .ref q48) (ty := .array (.object "LoanCases$Loan")) (C := RX1) (T := TX1) (N := 9) hx hb hts hinX1 tyX1 tyX1_ok nmX1 hown hK hP hD hS 0 rfl rfl 6 (by decide) (hts (.fieldLink RX1 27 "LoanCases" "loans" "[LLoanCases$Loan;") (by decide +kernel)) (fun _ h9 => h9) rfl hin rfl (by decide +kernel) rfl rfl (Nat.le_of_ble_eq_true rfl) dX1_init_51 (fun H locs hP hD hS => ?_)
  have hP : va_P D vwCl ([(h0, .inr (4, [.ref q7, .ref q15, .ref q23, .ref q31, .ref q40, .int 0, .ref q48, .int 0, .null])), (q7, .inl (kI, 110, .inl (fun _ => 0))), (q15, .inl (kI, 110, .inl (fun _ => 0))), (q23, .inl (kI, 110, .inl (fun _ => 0))), (q31, .inl (kI, 110, .inl (fun _ => 0))), (q40, .inl (kI, 1100, .inl (fun _ => 0))), (q48, .inl (kL, 8, .inr (.inr (.inr (.inr (fun _ => none))))))]) H := hP
  have hD : va_D A ([(h0, .inr (4, [.ref q7, .ref q15, .ref q23, .ref q31, .ref q40, .int 0, .ref q48, .int 0, .null])), (q7, .inl (kI, 110, .inl (fun _ => 0))), (q15, .inl (kI, 110, .inl (fun _ => 0))), (q23, .inl (kI, 110, .inl (fun _ => 0))), (q31, .inl (kI, 110, .inl (fun _ => 0))), (q40, .inl (kI, 1100, .inl (fun _ => 0))), (q48, .inl (kL, 8, .inr (.inr (.inr (.inr (fun _ => none))))))]) := hD
  refine lv_aload_n hx hb dX1_init_54 rfl (lv_at hl 0 rfl) ?_
  refine lv_bipush (v := 6) hx hb dX1_init_55 (by decide) ?_
  refine va_newa (atype := .int) (ty := .int) (n := 6) (N' := 6) (a0 := (6, .inl (fun _ => 0))) hx hb (hts (.arrayClass .int) (by decide +kernel)) rfl hK hP hD hS hA (fun _ => rfl) (by decide) (by decide) (by decide) (Nat.le_of_ble_eq_true rfl) (Nat.le_of_ble_eq_true rfl) dX1_init_57 (fun q57 cA H hK1 hP hD hS => ?_)
  rw [cA_int hK1] at hP hD
  clear hK1
  have hP : va_P D vwCl ([(h0, .inr (4, [.ref q7, .ref q15, .ref q23, .ref q31, .ref q40, .int 0, .ref q48, .int 0, .null])), (q7, .inl (kI, 110, .inl (fun _ => 0))), (q15, .inl (kI, 110, .inl (fun _ => 0))), (q23, .inl (kI, 110, .inl (fun _ => 0))), (q31, .inl (kI, 110, .inl (fun _ => 0))), (q40, .inl (kI, 1100, .inl (fun _ => 0))), (q48, .inl (kL, 8, .inr (.inr (.inr (.inr (fun _ => none)))))), (q57, .inl (kI, 6, .inl (fun _ => 0)))]) H := hP
  have hD : va_D A ([(h0, .inr (4, [.ref q7, .ref q15, .ref q23, .ref q31, .ref q40, .int 0, .ref q48, .int 0, .null])), (q7, .inl (kI, 110, .inl (fun _ => 0))), (q15, .inl (kI, 110, .inl (fun _ => 0))), (q23, .inl (kI, 110, .inl (fun _ => 0))), (q31, .inl (kI, 110, .inl (fun _ => 0))), (q40, .inl (kI, 1100, .inl (fun _ => 0))), (q48, .inl (kL, 8, .inr (.inr (.inr (.inr (fun _ => none)))))), (q57, .inl (kI, 6, .inl (fun _ => 0)))]) := hD
  refine W.widen (k := 7) (n := 1554) (by omega) (by omega) ?_
  refine va_putF (D := D) (ci := 4) (v := .ref q57) (ty := .array .int) (C := RX1) (T := TX1) (N := 9) hx hb hts hinX1 tyX1 tyX1_ok nmX1 hown hK hP hD hS 0 rfl rfl 8 (by decide) (hts (.fieldLink RX1 31 "LoanCases" "findings" "[I") (by decide +kernel)) (fun _ h9 => h9) rfl hin rfl (by decide +kernel) rfl rfl (Nat.le_of_ble_eq_true rfl) dX1_init_59 (fun H locs hP hD hS => ?_)
  have hP : va_P D vwCl ([(h0, .inr (4, [.ref q7, .ref q15, .ref q23, .ref q31, .ref q40, .int 0, .ref q48, .int 0, .ref q57])), (q7, .inl (kI, 110, .inl (fun _ => 0))), (q15, .inl (kI, 110, .inl (fun _ => 0))), (q23, .inl (kI, 110, .inl (fun _ => 0))), (q31, .inl (kI, 110, .inl (fun _ => 0))), (q40, .inl (kI, 1100, .inl (fun _ => 0))), (q48, .inl (kL, 8, .inr (.inr (.inr (.inr (fun _ => none)))))), (q57, .inl (kI, 6, .inl (fun _ => 0)))]) H := hP
  have hD : va_D A ([(h0, .inr (4, [.ref q7, .ref q15, .ref q23, .ref q31, .ref q40, .int 0, .ref q48, .int 0, .ref q57])), (q7, .inl (kI, 110, .inl (fun _ => 0))), (q15, .inl (kI, 110, .inl (fun _ => 0))), (q23, .inl (kI, 110, .inl (fun _ => 0))), (q31, .inl (kI, 110, .inl (fun _ => 0))), (q40, .inl (kI, 1100, .inl (fun _ => 0))), (q48, .inl (kL, 8, .inr (.inr (.inr (.inr (fun _ => none)))))), (q57, .inl (kI, 6, .inl (fun _ => 0)))]) := hD
  exact W.vret hx hb hr (fun t9 ht hW => ⟨⟨(fun k => [h0, q7, q15, q23, q31, q40, q48, q57].getD k 0), rfl, rfl, by rw [ht]; exact hP, va_K.moved hW.alike hK, by rw [hAe]; exact hD⟩, hS.F ht⟩) hS.2.2 dX1_init_62
