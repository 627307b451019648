
noncomputable def nnew (N : Nat → Nat → Nat → Int32) (B : Nat) : Nat → Nat → Nat → Int32 := fun j => if j = B then (fun k => if k = 2 then (fun _ => -5) else if k = 5 then xlz 8 else fun _ => 0) else N j
abbrev lnT : Type := (Nat → Nat) × (Nat → Nat → Int32) × (Nat → Nat → Nat → Int32) × (Nat → Option Nat) × Nat
theorem xP_grow (kI : ClassId) (q : Nat → Nat) (N : Nat → Nat → Nat → Int32) (B qn b1 b2 b3 : Nat) : ∃ q' : Nat → Nat, q' (4 * B) = qn ∧ (∀ i, i < 4 * B → q' i = q i) ∧ xP kI q N B ++ [(qn, .inr (3, [.int 0, .int 0, .int (-5), .ref b1, .ref b2, .ref b3])), (b1, .inl (kI, 8, .inl (fun _ => 0))), (b2, .inl (kI, 8, .inl (fun _ => 0))), (b3, .inl (kI, 8, .inl (xlz 8)))] = xP kI q' (nnew N B) (B + 1) := by
  refine ⟨fun i => if i < 4 * B then q i else if i = 4 * B then qn else if i = 4 * B + 1 then b1 else if i = 4 * B + 2 then b2 else b3, by simp, fun i hi => by simp [hi], ?_⟩
  unfold xP
  rw [show 4 * (B + 1) = 4 * B + 1 + 1 + 1 + 1 by omega, List.range_succ, List.range_succ, List.range_succ, List.range_succ]
  simp only [List.map_append, List.map_cons, List.map_nil, List.append_assoc, List.cons_append, List.nil_append]
  congr 1
  · apply List.map_congr_left
    intro i hi
    have hi : i < 4 * B := by simpa using hi
    have h4 : i / 4 < B := by omega
    have hne : ¬ i / 4 = B := by omega
    unfold xC
    by_cases h : i % 4 = 0
    · simp [hi, h, nnew, hne, show i + 1 < 4 * B by omega, show i + 2 < 4 * B by omega, show i + 3 < 4 * B by omega]
    · simp [hi, h, nnew, hne]
  · simp [xC, nnew, show 4 * B % 4 = 0 by omega, show 4 * B / 4 = B by omega, show (4 * B + 1) % 4 = 1 by omega, show (4 * B + 1) / 4 = B by omega, show (4 * B + 2) % 4 = 2 by omega, show (4 * B + 2) / 4 = B by omega, show (4 * B + 3) % 4 = 3 by omega, show (4 * B + 3) / 4 = B by omega]
    exact ⟨fun h => absurd h (by omega), fun h => absurd h (by omega), fun h => absurd h (by omega)⟩
set_option maxHeartbeats 4000000 in
set_option maxRecDepth 100000 in
theorem c_X1_loan (l : Launch) (D : va_G) (kI kJ kL : ClassId) (a q : Nat → Nat) (S : Nat → Nat → Int32) (N : Nat → Nat → Nat → Int32) (F : Nat → Option Nat) (B : Nat) (sz : Nat) (hb7 : S 7 0 = nI B) (hB : B ≤ 8) : Met l yX1_loan wsX1_loan ({ frames := 2, cells := 4, slots := 30, locals := 33 }) (q_wP D (xTY kI kJ kL) (xW kI kL a q S N F B) sz [.ref (a 0)]) (va_Qi (fun r (u : lnT) => (r = -4 ∧ ¬ S 7 0 < 8 ∧ u = (q, S, N, F, B)) ∨ (r = S 7 0 + 1 - 1 ∧ S 7 0 < 8 ∧ (∀ i, i < 4 * B → u.1 i = q i) ∧ u.2 = (sU S 7 0 (S 7 0 + 1), nnew N B, va_up F B (some (u.1 (4 * B))), B + 1))) (q_wB D (xTY kI kJ kL) (xW kI kL a q S N F B) sz (fun u : lnT => xW kI kL a u.1 u.2.1 u.2.2.1 u.2.2.2.1 u.2.2.2.2)) (va_A (xW kI kL a q S N F B) sz)) 4 30 (va_A (xW kI kL a q S N F B) sz) := by
  refine Met.ofW (cc := cX1_loan) (maxL := 1) (ret := (some .int)) (by decide) rfl ?_
  intro p e s m args below meth c s₁ Bd hml hv
  obtain ⟨rfl, hsz, hP, hK, hD0, hN⟩ := hv
  have hx := Bd.exec
  have hb := Bd.bytes
  have hr := Bd.returns
  have hts := atoms_spec (ws := wsX1_loan) Bd.pre
  have hown : s.vm.findClass RX1 = some m.cls := findClass_of_methodNamed Bd.named
  have hlocks := Bd.notSynchronized
  subst hsz
  have hD := hD0.self (sz := s.heap.size)
  generalize hAe : va_A (xW kI kL a q S N F B) s.heap.size = A at hD ⊢
  have hA : ∀ q : Nat, s.heap.size ≤ q → A q := fun q h => by rw [← hAe]; exact Or.inr h
  have hS : va_S A s.heap s.heap [] := va_S.rf
  have hl := lv_entry ([.ref (a 0)]) (n := 1) (Nat.le_of_ble_eq_true rfl)
  rw [lg_entry_eq]
  generalize (lg_sl ([.ref (a 0)]) ++ List.replicate (1 - (lg_sl ([.ref (a 0)])).length) Slot.unset).toArray = ls at hl ⊢
  have hl : lv_has ls 1 [(0, .ref (a 0))] := hl
  have hinX0 : ∀ w ∈ u_ws RX0 TX0 6, w ∈ wsX1_loan := by decide +kernel
  have hinX1 : ∀ w ∈ u_ws RX1 TX1 9, w ∈ wsX1_loan := by decide +kernel
  refine lv_aload_n hx hb dX1_loan_0 rfl (lv_at hl 0 rfl) ?_
  refine va_get (D := D) (ci := 4) (v := .int (S 7 0)) (C := RX1) (T := TX1) (N := 9) hx hb hts hinX1 hown hK hP 0 rfl rfl 7 (by decide) (hts (.fieldLink RX1 99 "LoanCases" "begun" "I") (by decide +kernel)) (fun _ h9 => h9) rfl dX1_loan_1 ?_
  refine lv_bipush (v := 8) hx hb dX1_loan_4 (by decide) ?_
  refine lv_icmp_lt (tgt := 12) hx hb dX1_loan_6 (by decide) (fun c_1 => ?_) (fun c_1 => ?_)
  · refine lv_aload_n hx hb dX1_loan_12 rfl (lv_at hl 0 rfl) ?_
    refine va_get (D := D) (ci := 4) (v := .ref (a 6)) (C := RX1) (T := TX1) (N := 9) hx hb hts hinX1 hown hK hP 0 rfl rfl 6 (by decide) (hts (.fieldLink RX1 27 "LoanCases" "loans" "[LLoanCases$Loan;") (by decide +kernel)) (fun _ h9 => h9) rfl dX1_loan_13 ?_
    refine lv_aload_n hx hb dX1_loan_16 rfl (lv_at hl 0 rfl) ?_
    refine va_get (D := D) (ci := 4) (v := .int (S 7 0)) (C := RX1) (T := TX1) (N := 9) hx hb hts hinX1 hown hK hP 0 rfl rfl 7 (by decide) (hts (.fieldLink RX1 99 "LoanCases" "begun" "I") (by decide +kernel)) (fun _ h9 => h9) rfl dX1_loan_17 ?_
    have hB8 : B < 8 := by have h7 := c_1; rw [hb7] at h7; exact (nI_ltI (a := B) (b := 8) (by omega) (by omega)).mp h7
    have hin7 : vp_in (S 7 0) 8 := by rw [hb7]; exact vp_in_nI hB8 (by omega)
    have hcl : (S 7 0).toNatClampNeg = B := by rw [hb7]; exact nI_clamp (by omega)
    refine va_new (ci := 3) (fs := [.int 0, .int 0, .int 0, .null, .null, .null]) (C := RX0) (T := TX0) (N := 6) hx hb hts hinX0 tyX0 tyX0_ok hown (hts (.classLink RX1 25 RX0) (by decide +kernel)) (hts (.instantiable RX0 6) (by decide +kernel)) (hts (.initialized RX0) (by decide +kernel)) hK hP hD hS hA rfl (fun j hj => by rcases (show j = 0 ∨ j = 1 ∨ j = 2 ∨ j = 3 ∨ j = 4 ∨ j = 5 by omega) with rfl | rfl | rfl | rfl | rfl | rfl <;> rfl) (Nat.le_of_ble_eq_true rfl) (Nat.le_of_ble_eq_true rfl) dX1_loan_20 (fun qn H hP hD hS => ?_)
    refine W.widen (k := 1) (n := 6) (by omega) (by omega) ?_
    have hP := qb_swapP hP
    have hD := qb_swapD hD
    refine lv_dup hx hb dX1_loan_23 rfl ?_
    refine qw_v (w2 := xW kI kL a q S N F B) (va_runIN (As := []) (rest := [.ref qn, .int (S 7 0), .ref (a 6)]) ⟨hx, hb, hml, hown, hts⟩ (c_X0_init l D kI kJ kL qn H.size) ⟨va_cnB 0 hts gX1_loan_X0_init_n102 rfl rfl rfl hN.2.2.2.2.2.2.1 (hts (.initialized RX0) (by decide +kernel)) (by decide +kernel) ⟨Nat.le_of_ble_eq_true rfl, Nat.le_of_ble_eq_true rfl⟩, rfl, hts (.instanceMethod yX0_init) (by decide +kernel)⟩ (q_wS (w2 := xW kI kL a q S N F B) hK hN hP hD) rfl rfl hl.1 rfl (lv_room (Nat.le_of_ble_eq_true rfl)) dX1_loan_24 ⟨Nat.le_of_ble_eq_true rfl, Nat.le_of_ble_eq_true rfl⟩) hP hD hS hA (fun u H locs hu hP hD hS => ?_)
    refine W.widen (k := 4) (n := 30) (by omega) (by omega) ?_
    obtain ⟨b1, b2, b3⟩ := u
    have hP := qb_swapP hP
    have hD := qb_swapD hD
    obtain ⟨q', hqB, hq, hgr⟩ := xP_grow kI q N B qn b1 b2 b3
    have hP : va_P D vwCl (xF kI kL a S F ++ xP kI q' (nnew N B) (B + 1)) H := by rw [← hgr, ← List.append_assoc]; exact hP
    have hD : va_D A (xF kI kL a S F ++ xP kI q' (nnew N B) (B + 1)) := by rw [← hgr, ← List.append_assoc]; exact hD
    rw [← hqB]
    refine va_astq hx hb hK hP hD hS 6 2 (8 + 4 * B) 3 (r := (RX0, TX0, 6)) rfl rfl (xL_obj (by omega)) rfl hin7 dX1_loan_27 (fun H locs hP hD hS => ?_)
    rw [hcl] at hP hD
    have hP : va_P D vwCl (xW kI kL a q' S (nnew N B) (va_up F B (some (q' (4 * B)))) (B + 1)) H := hP
    have hD : va_D A (xW kI kL a q' S (nnew N B) (va_up F B (some (q' (4 * B)))) (B + 1)) := hD
    refine lv_aload_n hx hb dX1_loan_28 rfl (lv_at hl 0 rfl) ?_
    refine lv_dup hx hb dX1_loan_29 rfl ?_
    refine va_get (D := D) (ci := 4) (v := .int (S 7 0)) (C := RX1) (T := TX1) (N := 9) hx hb hts hinX1 hown hK hP 0 rfl rfl 7 (by decide) (hts (.fieldLink RX1 99 "LoanCases" "begun" "I") (by decide +kernel)) (fun _ h9 => h9) rfl dX1_loan_30 ?_
    refine lv_iconst (v := 1) hx hb dX1_loan_33 (by decide) ?_
    refine lv_iadd hx hb dX1_loan_34 ?_
    refine va_put (D := D) (ci := 4) (v := .int ((S 7 0) + 1)) (ty := .int) (C := RX1) (T := TX1) (N := 9) hx hb hts hinX1 tyX1 tyX1_ok nmX1 hown hK hP hD hS 0 rfl rfl 7 (by decide) (hts (.fieldLink RX1 99 "LoanCases" "begun" "I") (by decide +kernel)) (fun _ h9 => h9) rfl (by decide +kernel) rfl rfl (Nat.le_of_ble_eq_true rfl) dX1_loan_35 (fun H locs hP hD hS => ?_)
    have hP : va_P D vwCl (xW kI kL a q' (sU S 7 0 ((S 7 0) + 1)) (nnew N B) (va_up F B (some (q' (4 * B)))) (B + 1)) H := hP
    have hD : va_D A (xW kI kL a q' (sU S 7 0 ((S 7 0) + 1)) (nnew N B) (va_up F B (some (q' (4 * B)))) (B + 1)) := hD
    refine lv_aload_n hx hb dX1_loan_38 rfl (lv_at hl 0 rfl) ?_
    refine va_get (D := D) (ci := 4) (v := .int ((sU S 7 0 ((S 7 0) + 1)) 7 0)) (C := RX1) (T := TX1) (N := 9) hx hb hts hinX1 hown hK hP 0 rfl rfl 7 (by decide) (hts (.fieldLink RX1 99 "LoanCases" "begun" "I") (by decide +kernel)) (fun _ h9 => h9) rfl dX1_loan_39 ?_
    refine lv_iconst (v := 1) hx hb dX1_loan_42 (by decide) ?_
    refine lv_isub hx hb dX1_loan_43 ?_
    exact W.iret (v := (((sU S 7 0 ((S 7 0) + 1)) 7 0) - 1)) hx hb hr (fun t9 ht hW => ⟨⟨(((sU S 7 0 ((S 7 0) + 1)) 7 0) - 1), (q', sU S 7 0 (S 7 0 + 1), nnew N B, va_up F B (some (q' (4 * B))), B + 1), rfl, Or.inr ⟨rfl, c_1, hq, rfl⟩, by rw [ht]; exact hP, va_K.moved hW.alike hK, by rw [hAe]; exact hD⟩, hS.F ht⟩) hS.2.2 dX1_loan_44
  · refine lv_bipush (v := -4) hx hb dX1_loan_9 (by decide) ?_
    refine W.widen (k := 4) (n := 30) (by omega) (by omega) ?_
    exact W.iret (v := (-4)) hx hb hr (fun t9 ht hW => ⟨⟨(-4), (q, S, N, F, B), rfl, Or.inl ⟨rfl, c_1, rfl⟩, by rw [ht]; exact hP, va_K.moved hW.alike hK, by rw [hAe]; exact hD⟩, hS.F ht⟩) hS.2.2 dX1_loan_11
