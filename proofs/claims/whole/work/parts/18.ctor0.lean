
theorem cA_int {D : va_G} {kI kJ kL cA : ClassId} {s : State} (h : va_K D vwCl (xTY kI kJ kL ++ [(cA, .int)]) s) : cA = kI := Option.some.inj ((show s.vm.findClass _ = some cA from (h.2 3 _ rfl).2).symm.trans (show s.vm.findClass _ = some kI from (h.2 0 _ rfl).2))
theorem cA_long {D : va_G} {kI kJ kL cA : ClassId} {s : State} (h : va_K D vwCl (xTY kI kJ kL ++ [(cA, .long)]) s) : cA = kJ := Option.some.inj ((show s.vm.findClass _ = some cA from (h.2 3 _ rfl).2).symm.trans (show s.vm.findClass _ = some kJ from (h.2 1 _ rfl).2))
theorem cA_loan {D : va_G} {kI kJ kL cA : ClassId} {s : State} (h : va_K D vwCl (xTY kI kJ kL ++ [(cA, .object RX0)]) s) : cA = kL := by
  obtain ⟨_, _, _, _, _, h3⟩ := (show va_RA s cA (.object RX0) from (h.2 3 _ rfl).2)
  obtain ⟨_, _, _, _, _, h0⟩ := (show va_RA s kL (.object RX0) from (h.2 2 _ rfl).2)
  exact Option.some.inj (h3.symm.trans h0)
def xlz : Nat → (Nat → Int32)
  | 0 => fun _ => 0
  | k + 1 => upd (xlz k) (nI k).toNatClampNeg (-5)
def S00 : Nat → Nat → Int32 := fun _ _ => 0
def N00 : Nat → Nat → Nat → Int32 := fun _ _ _ => 0
set_option maxHeartbeats 4000000 in
set_option maxRecDepth 100000 in
theorem c_X0_init (l : Launch) (D : va_G) (kI kJ kL : ClassId) (h0 sz : Nat) : Met l yX0_init wsX0_init ({ frames := 1, cells := 3, slots := 24, locals := 12 }) (va_Pc [.ref h0] (fun U => U.heap.size = sz ∧ va_P D vwCl ([(h0, .inr (3, [.int 0, .int 0, .int 0, .null, .null, .null]))]) U.heap ∧ va_K D vwCl (xTY kI kJ kL) U ∧ va_D (fun _ => True) ([(h0, .inr (3, [.int 0, .int 0, .int 0, .null, .null, .null]))]) ∧ xNest U)) (va_Qv (fun u : Nat × Nat × Nat => True) (q_wB D (xTY kI kJ kL) ([(h0, .inr (3, [.int 0, .int 0, .int 0, .null, .null, .null]))]) sz (fun u : Nat × Nat × Nat => [(h0, .inr (3, [.int 0, .int 0, .int (-5), .ref u.1, .ref u.2.1, .ref u.2.2])), (u.1, .inl (kI, 8, .inl (fun _ => 0))), (u.2.1, .inl (kI, 8, .inl (fun _ => 0))), (u.2.2, .inl (kI, 8, .inl (xlz 8)))])) (va_A ([(h0, .inr (3, [.int 0, .int 0, .int 0, .null, .null, .null]))]) sz)) 3 24 (va_A ([(h0, .inr (3, [.int 0, .int 0, .int 0, .null, .null, .null]))]) sz) := by
  refine Met.ofW (cc := cX0_init) (maxL := 2) (ret := none) (by decide) rfl ?_
  intro p e s m args below meth c s₁ Bd hml hv
  obtain ⟨rfl, hsz, hP, hK, hD0, hN⟩ := hv
  have hx := Bd.exec
  have hb := Bd.bytes
  have hr := Bd.returns
  have hts := atoms_spec (ws := wsX0_init) Bd.pre
  have hown : s.vm.findClass RX0 = some m.cls := findClass_of_methodNamed Bd.named
  have hlocks := Bd.notSynchronized
  subst hsz
  have hD := hD0.self (sz := s.heap.size)
  generalize hAe : va_A ([(h0, .inr (3, [.int 0, .int 0, .int 0, .null, .null, .null]))]) s.heap.size = A at hD ⊢
  have hA : ∀ q : Nat, s.heap.size ≤ q → A q := fun q h => by rw [← hAe]; exact Or.inr h
  have hS : va_S A s.heap s.heap [] := va_S.rf
  have hl := lv_entry ([.ref h0]) (n := 2) (Nat.le_of_ble_eq_true rfl)
  rw [lg_entry_eq]
  generalize (lg_sl ([.ref h0]) ++ List.replicate (2 - (lg_sl ([.ref h0])).length) Slot.unset).toArray = ls at hl ⊢
  have hl : lv_has ls 2 [(0, .ref h0)] := hl
  have hinX0 : ∀ w ∈ u_ws RX0 TX0 6, w ∈ wsX0_init := by decide +kernel
  have hin : meth.name = "<init>" := (name_of_methodNamed Bd.named Bd.method).1
  refine lv_aload_n hx hb dX0_init_0 rfl (lv_at hl 0 rfl) ?_
  refine W.objInit hx hb hown (hts (.methodLink RX0 3 objectInit) (by decide +kernel)) (hts (.instanceMethod objectInit) (by decide +kernel)) (hts (.code objectInit ⟨#[0xb1]⟩ 1 none) (by decide +kernel)) rfl (by rw [hml]; exact hl.1) rfl dX0_init_1 (Nat.le_of_ble_eq_true rfl) (Nat.le_of_ble_eq_true rfl) ?_
  refine W.eq (g2 := F0 m 4 ls []) rfl ?_
  refine lv_aload_n hx hb dX0_init_4 rfl (lv_at hl 0 rfl) ?_
  refine lv_iconst (v := 0) hx hb dX0_init_5 (by decide) ?_
  refine va_put (D := D) (ci := 3) (v := .int 0) (ty := .int) (C := RX0) (T := TX0) (N := 6) hx hb hts hinX0 tyX0 tyX0_ok nmX0 hown hK hP hD hS 0 rfl rfl 0 (by decide) (hts (.fieldLink RX0 9 "LoanCases$Loan" "state" "I") (by decide +kernel)) (fun _ h9 => h9) rfl (by decide +kernel) rfl rfl (Nat.le_of_ble_eq_true rfl) dX0_init_6 (fun H locs hP hD hS => ?_)
  have hP : va_P D vwCl ([(h0, .inr (3, [.int 0, .int 0, .int 0, .null, .null, .null]))]) H := hP
  have hD : va_D A ([(h0, .inr (3, [.int 0, .int 0, .int 0, .null, .null, .null]))]) := hD
  refine lv_aload_n hx hb dX0_init_9 rfl (lv_at hl 0 rfl) ?_
  refine lv_iconst (v := 0) hx hb dX0_init_10 (by decide) ?_
  refine va_put (D := D) (ci := 3) (v := .int 0) (ty := .int) (C := RX0) (T := TX0) (N := 6) hx hb hts hinX0 tyX0 tyX0_ok nmX0 hown hK hP hD hS 0 rfl rfl 1 (by decide) (hts (.fieldLink RX0 15 "LoanCases$Loan" "wants" "I") (by decide +kernel)) (fun _ h9 => h9) rfl (by decide +kernel) rfl rfl (Nat.le_of_ble_eq_true rfl) dX0_init_11 (fun H locs hP hD hS => ?_)
  have hP : va_P D vwCl ([(h0, .inr (3, [.int 0, .int 0, .int 0, .null, .null, .null]))]) H := hP
  have hD : va_D A ([(h0, .inr (3, [.int 0, .int 0, .int 0, .null, .null, .null]))]) := hD
  refine lv_aload_n hx hb dX0_init_14 rfl (lv_at hl 0 rfl) ?_
  refine lv_bipush (v := -5) hx hb dX0_init_15 (by decide) ?_
  refine va_put (D := D) (ci := 3) (v := .int (-5)) (ty := .int) (C := RX0) (T := TX0) (N := 6) hx hb hts hinX0 tyX0 tyX0_ok nmX0 hown hK hP hD hS 0 rfl rfl 2 (by decide) (hts (.fieldLink RX0 18 "LoanCases$Loan" "stuckAt" "I") (by decide +kernel)) (fun _ h9 => h9) rfl (by decide +kernel) rfl rfl (Nat.le_of_ble_eq_true rfl) dX0_init_17 (fun H locs hP hD hS => ?_)
  have hP : va_P D vwCl ([(h0, .inr (3, [.int 0, .int 0, .int (-5), .null, .null, .null]))]) H := hP
  have hD : va_D A ([(h0, .inr (3, [.int 0, .int 0, .int (-5), .null, .null, .null]))]) := hD
  refine lv_aload_n hx hb dX0_init_20 rfl (lv_at hl 0 rfl) ?_
  refine lv_bipush (v := 8) hx hb dX0_init_21 (by decide) ?_
  refine va_newa (atype := .int) (ty := .int) (n := 8) (N' := 8) (a0 := (8, .inl (fun _ => 0))) hx hb (hts (.arrayClass .int) (by decide +kernel)) rfl hK hP hD hS hA (fun _ => rfl) (by decide) (by decide) (by decide) (Nat.le_of_ble_eq_true rfl) (Nat.le_of_ble_eq_true rfl) dX0_init_23 (fun q23 cA H hK1 hP hD hS => ?_)
  rw [cA_int hK1] at hP hD
  clear hK1
  have hP : va_P D vwCl ([(h0, .inr (3, [.int 0, .int 0, .int (-5), .null, .null, .null])), (q23, .inl (kI, 8, .inl (fun _ => 0)))]) H := hP
  have hD : va_D A ([(h0, .inr (3, [.int 0, .int 0, .int (-5), .null, .null, .null])), (q23, .inl (kI, 8, .inl (fun _ => 0)))]) := hD
  refine W.widen (k := 1) (n := 8) (by omega) (by omega) ?_
  refine va_putF (D := D) (ci := 3) (v := .ref q23) (ty := .array .int) (C := RX0) (T := TX0) (N := 6) hx hb hts hinX0 tyX0 tyX0_ok nmX0 hown hK hP hD hS 0 rfl rfl 3 (by decide) (hts (.fieldLink RX0 21 "LoanCases$Loan" "boxes" "[I") (by decide +kernel)) (fun _ h9 => h9) rfl hin rfl (by decide +kernel) rfl rfl (Nat.le_of_ble_eq_true rfl) dX0_init_25 (fun H locs hP hD hS => ?_)
  have hP : va_P D vwCl ([(h0, .inr (3, [.int 0, .int 0, .int (-5), .ref q23, .null, .null])), (q23, .inl (kI, 8, .inl (fun _ => 0)))]) H := hP
  have hD : va_D A ([(h0, .inr (3, [.int 0, .int 0, .int (-5), .ref q23, .null, .null])), (q23, .inl (kI, 8, .inl (fun _ => 0)))]) := hD
  refine lv_aload_n hx hb dX0_init_28 rfl (lv_at hl 0 rfl) ?_
  refine lv_bipush (v := 8) hx hb dX0_init_29 (by decide) ?_
  refine va_newa (atype := .int) (ty := .int) (n := 8) (N' := 8) (a0 := (8, .inl (fun _ => 0))) hx hb (hts (.arrayClass .int) (by decide +kernel)) rfl hK hP hD hS hA (fun _ => rfl) (by decide) (by decide) (by decide) (Nat.le_of_ble_eq_true rfl) (Nat.le_of_ble_eq_true rfl) dX0_init_31 (fun q31 cA H hK1 hP hD hS => ?_)
  rw [cA_int hK1] at hP hD
  clear hK1
  have hP : va_P D vwCl ([(h0, .inr (3, [.int 0, .int 0, .int (-5), .ref q23, .null, .null])), (q23, .inl (kI, 8, .inl (fun _ => 0))), (q31, .inl (kI, 8, .inl (fun _ => 0)))]) H := hP
  have hD : va_D A ([(h0, .inr (3, [.int 0, .int 0, .int (-5), .ref q23, .null, .null])), (q23, .inl (kI, 8, .inl (fun _ => 0))), (q31, .inl (kI, 8, .inl (fun _ => 0)))]) := hD
  refine W.widen (k := 2) (n := 16) (by omega) (by omega) ?_
  refine va_putF (D := D) (ci := 3) (v := .ref q31) (ty := .array .int) (C := RX0) (T := TX0) (N := 6) hx hb hts hinX0 tyX0 tyX0_ok nmX0 hown hK hP hD hS 0 rfl rfl 4 (by decide) (hts (.fieldLink RX0 25 "LoanCases$Loan" "wanted" "[I") (by decide +kernel)) (fun _ h9 => h9) rfl hin rfl (by decide +kernel) rfl rfl (Nat.le_of_ble_eq_true rfl) dX0_init_33 (fun H locs hP hD hS => ?_)
  have hP : va_P D vwCl ([(h0, .inr (3, [.int 0, .int 0, .int (-5), .ref q23, .ref q31, .null])), (q23, .inl (kI, 8, .inl (fun _ => 0))), (q31, .inl (kI, 8, .inl (fun _ => 0)))]) H := hP
  have hD : va_D A ([(h0, .inr (3, [.int 0, .int 0, .int (-5), .ref q23, .ref q31, .null])), (q23, .inl (kI, 8, .inl (fun _ => 0))), (q31, .inl (kI, 8, .inl (fun _ => 0)))]) := hD
  refine lv_aload_n hx hb dX0_init_36 rfl (lv_at hl 0 rfl) ?_
  refine lv_bipush (v := 8) hx hb dX0_init_37 (by decide) ?_
  refine va_newa (atype := .int) (ty := .int) (n := 8) (N' := 8) (a0 := (8, .inl (fun _ => 0))) hx hb (hts (.arrayClass .int) (by decide +kernel)) rfl hK hP hD hS hA (fun _ => rfl) (by decide) (by decide) (by decide) (Nat.le_of_ble_eq_true rfl) (Nat.le_of_ble_eq_true rfl) dX0_init_39 (fun q39 cA H hK1 hP hD hS => ?_)
  rw [cA_int hK1] at hP hD
  clear hK1
  have hP : va_P D vwCl ([(h0, .inr (3, [.int 0, .int 0, .int (-5), .ref q23, .ref q31, .null])), (q23, .inl (kI, 8, .inl (fun _ => 0))), (q31, .inl (kI, 8, .inl (fun _ => 0))), (q39, .inl (kI, 8, .inl (fun _ => 0)))]) H := hP
  have hD : va_D A ([(h0, .inr (3, [.int 0, .int 0, .int (-5), .ref q23, .ref q31, .null])), (q23, .inl (kI, 8, .inl (fun _ => 0))), (q31, .inl (kI, 8, .inl (fun _ => 0))), (q39, .inl (kI, 8, .inl (fun _ => 0)))]) := hD
  refine W.widen (k := 3) (n := 24) (by omega) (by omega) ?_
  refine va_putF (D := D) (ci := 3) (v := .ref q39) (ty := .array .int) (C := RX0) (T := TX0) (N := 6) hx hb hts hinX0 tyX0 tyX0_ok nmX0 hown hK hP hD hS 0 rfl rfl 5 (by decide) (hts (.fieldLink RX0 28 "LoanCases$Loan" "load" "[I") (by decide +kernel)) (fun _ h9 => h9) rfl hin rfl (by decide +kernel) rfl rfl (Nat.le_of_ble_eq_true rfl) dX0_init_41 (fun H locs hP hD hS => ?_)
  have hP : va_P D vwCl ([(h0, .inr (3, [.int 0, .int 0, .int (-5), .ref q23, .ref q31, .ref q39])), (q23, .inl (kI, 8, .inl (fun _ => 0))), (q31, .inl (kI, 8, .inl (fun _ => 0))), (q39, .inl (kI, 8, .inl (fun _ => 0)))]) H := hP
  have hD : va_D A ([(h0, .inr (3, [.int 0, .int 0, .int (-5), .ref q23, .ref q31, .ref q39])), (q23, .inl (kI, 8, .inl (fun _ => 0))), (q31, .inl (kI, 8, .inl (fun _ => 0))), (q39, .inl (kI, 8, .inl (fun _ => 0)))]) := hD
  refine lv_iconst (v := 0) hx hb dX0_init_44 (by decide) ?_
  refine lv_istore_n (lv' := [(1, .int 0), (0, .ref h0)]) hx hb dX0_init_45 rfl hl (by decide) rfl (fun ls hl => ?_)
  have loop46 : ∀ (n46 : Nat) (i : Nat), (9 ≤ i + n46) → (i ≤ 8) → ∀ (H : Heap) (locs : List Loc), va_P D vwCl ([(h0, .inr (3, [.int 0, .int 0, .int (-5), .ref q23, .ref q31, .ref q39])), (q23, .inl (kI, 8, .inl (fun _ => 0))), (q31, .inl (kI, 8, .inl (fun _ => 0))), (q39, .inl (kI, 8, .inl (xlz i)))]) H → va_D A ([(h0, .inr (3, [.int 0, .int 0, .int (-5), .ref q23, .ref q31, .ref q39])), (q23, .inl (kI, 8, .inl (fun _ => 0))), (q31, .inl (kI, 8, .inl (fun _ => 0))), (q39, .inl (kI, 8, .inl (xlz i)))]) → va_S A s.heap H locs → ∀ (ls : Array Slot), lv_has ls 2 [(0, .ref h0), (1, .int (nI i))] → W p l e ({ frames := 1, cells := 3, slots := 24, locals := 12 }) s m ([.ref h0] : List Value).toArray below meth c H locs 3 24 (MQ below (va_Qv (fun u : Nat × Nat × Nat => True) (q_wB D (xTY kI kJ kL) ([(h0, .inr (3, [.int 0, .int 0, .int 0, .null, .null, .null]))]) s.heap.size (fun u : Nat × Nat × Nat => [(h0, .inr (3, [.int 0, .int 0, .int (-5), .ref u.1, .ref u.2.1, .ref u.2.2])), (u.1, .inl (kI, 8, .inl (fun _ => 0))), (u.2.1, .inl (kI, 8, .inl (fun _ => 0))), (u.2.2, .inl (kI, 8, .inl (xlz 8)))])) A) ([.ref h0] : List Value).toArray s 3 24 A) (F0 m 46 ls []) := by
    intro n46
    induction n46 with
    | zero =>
      intro i hf hi
      exact absurd hf (by omega)
    | succ n46 ih46 =>
      intro i hf hi H locs hP hD hS ls hl
      refine lv_iload_n hx hb dX0_init_46 rfl (lv_at hl 1 rfl) ?_
      refine lv_bipush (v := 8) hx hb dX0_init_47 (by decide) ?_
      refine lv_icmp_ge (tgt := 66) hx hb dX0_init_49 (by decide) (fun c_1 => ?_) (fun c_1 => ?_)
      · have hi2 : i = 8 := by
          have h7 : 8 ≤ i := (nI_leI (a := 8) (b := i) (by omega) (by omega)).mp c_1
          omega
        rw [hi2] at hP hD
        exact W.vret hx hb hr (fun t9 ht hW => ⟨⟨(q23, q31, q39), rfl, trivial, by rw [ht]; exact hP, va_K.moved hW.alike hK, by rw [hAe]; exact hD⟩, hS.F ht⟩) hS.2.2 dX0_init_66
      · have hi2 : i < 8 := Nat.lt_of_not_le (fun h8 => c_1 ((nI_leI (a := 8) (b := i) (by omega) (by omega)).mpr h8))
        have hin2 : vp_in (nI i) 8 := vp_in_nI (by omega) (by omega)
        refine lv_aload_n hx hb dX0_init_52 rfl (lv_at hl 0 rfl) ?_
        refine va_get (D := D) (ci := 3) (v := .ref q39) (C := RX0) (T := TX0) (N := 6) hx hb hts hinX0 hown hK hP 0 rfl rfl 5 (by decide) (hts (.fieldLink RX0 28 "LoanCases$Loan" "load" "[I") (by decide +kernel)) (fun _ h9 => h9) rfl dX0_init_53 ?_
        refine lv_iload_n hx hb dX0_init_56 rfl (lv_at hl 1 rfl) ?_
        refine lv_bipush (v := -5) hx hb dX0_init_57 (by decide) ?_
        refine va_iast (f := (xlz i)) hx hb hK hP hD hS 3 0 rfl rfl hin2 dX0_init_59 (fun H locs hP hD hS => ?_)
        have hP : va_P D vwCl ([(h0, .inr (3, [.int 0, .int 0, .int (-5), .ref q23, .ref q31, .ref q39])), (q23, .inl (kI, 8, .inl (fun _ => 0))), (q31, .inl (kI, 8, .inl (fun _ => 0))), (q39, .inl (kI, 8, .inl (upd (xlz i) (nI i).toNatClampNeg (-5))))]) H := hP
        have hD : va_D A ([(h0, .inr (3, [.int 0, .int 0, .int (-5), .ref q23, .ref q31, .ref q39])), (q23, .inl (kI, 8, .inl (fun _ => 0))), (q31, .inl (kI, 8, .inl (fun _ => 0))), (q39, .inl (kI, 8, .inl (upd (xlz i) (nI i).toNatClampNeg (-5))))]) := hD
        obtain ⟨x_2, ex_2⟩ : ∃ y : Int32, y = (nI i) + (1) := ⟨_, rfl⟩
        refine lv_iinc (v := x_2) (lv' := [(1, .int x_2), (0, .ref h0)]) hx hb dX0_init_60 hl (k := 1) rfl (by rw [ex_2]; rfl) (by decide) rfl (fun ls hl => ?_)
        refine lv_goto (tgt := 46) hx hb dX0_init_63 (by decide) ?_
        rw [show x_2 = nI (i + 1) from (ex_2).trans (nI_1 i)] at hl
        exact ih46 (i + 1) (by omega) (by omega) H locs hP hD hS ls (lv_sub hl [1, 0] rfl)
  exact loop46 9 0 (by omega) (by omega) H locs hP hD hS ls (lv_sub hl [1, 0] rfl)
