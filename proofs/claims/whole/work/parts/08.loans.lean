
theorem nU_o {N : Nat → Nat → Nat → Int32} {j k k' i : Nat} {v : Int32} (h : ¬ k' = k) : nU N j k i v j k' = N j k' := by simp [nU, h]
theorem nU_s {N : Nat → Nat → Nat → Int32} {j k : Nat} {v : Int32} : nU N j k 0 v j k 0 = v := by simp [nU, upd]
noncomputable def xse (N : Nat → Nat → Nat → Int32) (j : Nat) : Nat → Nat → (Nat → Nat → Nat → Int32)
  | _, 0 => nU (nU N j 0 0 3) j 2 0 (-5)
  | w, k + 1 => cif (N j 5 w = -5) (xse N j (w + 1) k) (nU (nU N j 0 0 1) j 2 0 (nI w))
noncomputable def xlw (S : Nat → Nat → Int32) (N : Nat → Nat → Nat → Int32) (j : Nat) (w : Int32) : Int32 × (Nat → Nat → Int32) × (Nat → Nat → Nat → Int32) := cif (S 3 (N j 3 w.toNatClampNeg).toNatClampNeg = -5) (2, S, N) (cif (xOf S (S 3 (N j 3 w.toNatClampNeg).toNatClampNeg) (N j 4 w.toNatClampNeg)) (0, sU S 3 (N j 3 w.toNatClampNeg).toNatClampNeg (-5), nU N j 5 w.toNatClampNeg (S 3 (N j 3 w.toNatClampNeg).toNatClampNeg)) (1, S, N))
noncomputable def xuw (S : Nat → Nat → Int32) (N : Nat → Nat → Nat → Int32) (j : Nat) (w : Int32) : Int32 × (Nat → Nat → Int32) × (Nat → Nat → Nat → Int32) := cif (N j 5 w.toNatClampNeg = -5) (0, S, N) (cif (S 3 (N j 3 w.toNatClampNeg).toNatClampNeg = -5) (cif (xch S (N j 3 w.toNatClampNeg) 110 (N j 5 w.toNatClampNeg) = N j 3 w.toNatClampNeg) (0, S, N) (1, sU S 3 (N j 3 w.toNatClampNeg).toNatClampNeg (N j 5 w.toNatClampNeg), nU N j 5 w.toNatClampNeg (-5))) (0, S, N))
noncomputable def xs_want (S : Nat → Nat → Int32) (N : Nat → Nat → Nat → Int32) (l b k : Int32) : Int32 × (Nat → Nat → Nat → Int32) := cif (xLn S l) (cif (xK S b) (cif (btw k 0 20) (cif (N l.toNatClampNeg 0 0 = 0) (cif (N l.toNatClampNeg 1 0 < 8) (N l.toNatClampNeg 1 0 + 1, nU (nU (nU N l.toNatClampNeg 3 (N l.toNatClampNeg 1 0).toNatClampNeg b) l.toNatClampNeg 4 (N l.toNatClampNeg 1 0).toNatClampNeg k) l.toNatClampNeg 1 0 (N l.toNatClampNeg 1 0 + 1)) (-4, N)) (-3, N)) (-2, N)) (-1, N)) (-1, N)
noncomputable def xlv (j : Nat) : Nat → Nat → (Nat → Nat → Int32) → (Nat → Nat → Nat → Int32) → Int32 × (Nat → Nat → Int32) × (Nat → Nat → Nat → Int32)
  | _, 0, S, N => (1, S, nU N j 0 0 2)
  | w, k + 1, S, N => cif ((xlw S N j (nI w)).1 = 0) (xlv j (w + 1) k (xlw S N j (nI w)).2.1 (xlw S N j (nI w)).2.2) (-30 - (xlw S N j (nI w)).1, xfd (xlw S N j (nI w)).2.1 (xlw S N j (nI w)).1, nU (nU (xlw S N j (nI w)).2.2 j 0 0 1) j 2 0 (nI w))
noncomputable def xs_leave (S : Nat → Nat → Int32) (N : Nat → Nat → Nat → Int32) (l : Int32) : Int32 × (Nat → Nat → Int32) × (Nat → Nat → Nat → Int32) := cif (xLn S l) (cif (N l.toNatClampNeg 0 0 = 0) (xlv l.toNatClampNeg 0 (N l.toNatClampNeg 1 0).toNatClampNeg S N) (-3, S, N)) (-1, S, N)
noncomputable def xbk (j : Nat) : Nat → Int32 → (Nat → Nat → Int32) → (Nat → Nat → Nat → Int32) → Int32 × (Nat → Nat → Int32) × (Nat → Nat → Nat → Int32)
  | 0, c, S, N => (c, S, xse N j 0 8)
  | k + 1, c, S, N => xbk j k (cif ((xuw S N j (nI k)).1 = 0) c (c + 1)) (xuw S N j (nI k)).2.1 (xuw S N j (nI k)).2.2
noncomputable def xs_back (S : Nat → Nat → Int32) (N : Nat → Nat → Nat → Int32) (l : Int32) : Int32 × (Nat → Nat → Int32) × (Nat → Nat → Nat → Int32) := cif (xLn S l) (cif (N l.toNatClampNeg 0 0 = 1) (xbk l.toNatClampNeg (N l.toNatClampNeg 1 0).toNatClampNeg 0 S N) (cif (N l.toNatClampNeg 0 0 = 2) (xbk l.toNatClampNeg (N l.toNatClampNeg 1 0).toNatClampNeg 0 S N) (-3, S, N))) (-1, S, N)
theorem cif_p {α : Type} {P : α → Prop} {Q : Prop} {a b : α} (ha : Q → P a) (hb : ¬ Q → P b) : P (cif Q a b) := by
  by_cases h : Q
  · rw [cif_t h]; exact ha h
  · rw [cif_f h]; exact hb h
theorem xlw_k (S : Nat → Nat → Int32) (N : Nat → Nat → Nat → Int32) (j : Nat) (w : Int32) : vp_in (xlw S N j w).1 6 ∧ (xlw S N j w).2.1 6 = S 6 ∧ (xlw S N j w).2.2 j 1 = N j 1 ∧ (xlw S N j w).2.2 j 3 = N j 3 := by
  unfold xlw
  refine cif_p (P := fun (z : Int32 × (Nat → Nat → Int32) × (Nat → Nat → Nat → Int32)) => vp_in z.1 6 ∧ z.2.1 6 = S 6 ∧ z.2.2 j 1 = N j 1 ∧ z.2.2 j 3 = N j 3) (fun _ => ⟨show vp_in (2 : Int32) 6 by unfold vp_in; decide, rfl, rfl, rfl⟩) (fun _ => cif_p (P := fun (z : Int32 × (Nat → Nat → Int32) × (Nat → Nat → Nat → Int32)) => vp_in z.1 6 ∧ z.2.1 6 = S 6 ∧ z.2.2 j 1 = N j 1 ∧ z.2.2 j 3 = N j 3) (fun _ => ⟨show vp_in (0 : Int32) 6 by unfold vp_in; decide, rfl, nU_o (by decide), nU_o (by decide)⟩) (fun _ => ⟨show vp_in (1 : Int32) 6 by unfold vp_in; decide, rfl, rfl, rfl⟩))
theorem xuw_k (S : Nat → Nat → Int32) (N : Nat → Nat → Nat → Int32) (j : Nat) (w : Int32) : (xuw S N j w).2.1 6 = S 6 ∧ (xuw S N j w).2.2 j 1 = N j 1 ∧ (xuw S N j w).2.2 j 3 = N j 3 := by
  unfold xuw
  refine cif_p (P := fun (z : Int32 × (Nat → Nat → Int32) × (Nat → Nat → Nat → Int32)) => z.2.1 6 = S 6 ∧ z.2.2 j 1 = N j 1 ∧ z.2.2 j 3 = N j 3) (fun _ => ⟨rfl, rfl, rfl⟩) (fun _ => cif_p (P := fun (z : Int32 × (Nat → Nat → Int32) × (Nat → Nat → Nat → Int32)) => z.2.1 6 = S 6 ∧ z.2.2 j 1 = N j 1 ∧ z.2.2 j 3 = N j 3) (fun _ => cif_p (P := fun (z : Int32 × (Nat → Nat → Int32) × (Nat → Nat → Nat → Int32)) => z.2.1 6 = S 6 ∧ z.2.2 j 1 = N j 1 ∧ z.2.2 j 3 = N j 3) (fun _ => ⟨rfl, rfl, rfl⟩) (fun _ => ⟨rfl, nU_o (by decide), nU_o (by decide)⟩)) (fun _ => ⟨rfl, rfl, rfl⟩))
theorem nI_m1 (k : Nat) : nI k + (-1) = nI k - 1 := by rw [Int32.sub_eq_add_neg]
set_option maxHeartbeats 4000000 in
set_option maxRecDepth 100000 in
theorem c_X0_stick (l : Launch) (D : va_G) (kI kJ kL : ClassId) (a q : Nat → Nat) (S : Nat → Nat → Int32) (N : Nat → Nat → Nat → Int32) (F : Nat → Option Nat) (B : Nat) (sz : Nat) (j : Nat) (w : Int32) (hj : j < B) : Met l yX0_stick wsX0_stick ({ frames := 0, cells := 0, slots := 0, locals := 0 }) (q_wP D (xTY kI kJ kL) (xW kI kL a q S N F B) sz [.ref (q (4 * j)), .int w]) (va_Qv (fun (u : (Nat → Nat → Int32) × (Nat → Nat → Nat → Int32)) => u = (S, nU (nU N j 0 0 1) j 2 0 w)) (q_wB D (xTY kI kJ kL) (xW kI kL a q S N F B) sz (fun u : (Nat → Nat → Int32) × (Nat → Nat → Nat → Int32) => xW kI kL a q u.1 u.2 F B)) (va_A (xW kI kL a q S N F B) sz)) 0 0 (va_A (xW kI kL a q S N F B) sz) := by
  refine Met.ofW (cc := cX0_stick) (maxL := 2) (ret := none) (by decide) rfl ?_
  intro p e s m args below meth c s₁ Bd hml hv
  obtain ⟨rfl, hsz, hP, hK, hD0, hN⟩ := hv
  have hx := Bd.exec
  have hb := Bd.bytes
  have hr := Bd.returns
  have hts := atoms_spec (ws := wsX0_stick) Bd.pre
  have hown : s.vm.findClass RX0 = some m.cls := findClass_of_methodNamed Bd.named
  have hlocks := Bd.notSynchronized
  subst hsz
  have hD := hD0.self (sz := s.heap.size)
  generalize hAe : va_A (xW kI kL a q S N F B) s.heap.size = A at hD ⊢
  have hA : ∀ q : Nat, s.heap.size ≤ q → A q := fun q h => by rw [← hAe]; exact Or.inr h
  have hS : va_S A s.heap s.heap [] := va_S.rf
  have hl := lv_entry ([.ref (q (4 * j)), .int w]) (n := 2) (Nat.le_of_ble_eq_true rfl)
  rw [lg_entry_eq]
  generalize (lg_sl ([.ref (q (4 * j)), .int w]) ++ List.replicate (2 - (lg_sl ([.ref (q (4 * j)), .int w])).length) Slot.unset).toArray = ls at hl ⊢
  have hl : lv_has ls 2 [(0, .ref (q (4 * j))), (1, .int w)] := hl
  have hinX0 : ∀ w ∈ u_ws RX0 TX0 6, w ∈ wsX0_stick := by decide +kernel
  refine lv_aload_n hx hb dX0_stick_0 rfl (lv_at hl 0 rfl) ?_
  refine lv_iconst (v := 1) hx hb dX0_stick_1 (by decide) ?_
  refine va_put (D := D) (ci := 3) (v := .int 1) (ty := .int) (C := RX0) (T := TX0) (N := 6) hx hb hts hinX0 tyX0 tyX0_ok nmX0 hown hK hP hD hS (8 + 4 * j) (xL_obj hj) rfl 0 (by decide) (hts (.fieldLink RX0 9 "LoanCases$Loan" "state" "I") (by decide +kernel)) (fun _ h9 => h9) rfl (by decide +kernel) rfl rfl (Nat.le_of_ble_eq_true rfl) dX0_stick_2 (fun H locs hP hD hS => ?_)
  rw [xL_setF hj 0 (by decide) 1] at hP hD
  have hP : va_P D vwCl (xW kI kL a q S (nU N j 0 0 1) F B) H := hP
  have hD : va_D A (xW kI kL a q S (nU N j 0 0 1) F B) := hD
  refine lv_aload_n hx hb dX0_stick_5 rfl (lv_at hl 0 rfl) ?_
  refine lv_iload_n hx hb dX0_stick_6 rfl (lv_at hl 1 rfl) ?_
  refine va_put (D := D) (ci := 3) (v := .int w) (ty := .int) (C := RX0) (T := TX0) (N := 6) hx hb hts hinX0 tyX0 tyX0_ok nmX0 hown hK hP hD hS (8 + 4 * j) (xL_obj hj) rfl 2 (by decide) (hts (.fieldLink RX0 18 "LoanCases$Loan" "stuckAt" "I") (by decide +kernel)) (fun _ h9 => h9) rfl (by decide +kernel) rfl rfl (Nat.le_of_ble_eq_true rfl) dX0_stick_7 (fun H locs hP hD hS => ?_)
  rw [xL_setF hj 2 (by decide) w] at hP hD
  have hP : va_P D vwCl (xW kI kL a q S (nU (nU N j 0 0 1) j 2 0 w) F B) H := hP
  have hD : va_D A (xW kI kL a q S (nU (nU N j 0 0 1) j 2 0 w) F B) := hD
  exact W.vret hx hb hr (fun t9 ht hW => ⟨⟨(S, (nU (nU N j 0 0 1) j 2 0 w)), rfl, rfl, by rw [ht]; exact hP, va_K.moved hW.alike hK, by rw [hAe]; exact hD⟩, hS.F ht⟩) hS.2.2 dX0_stick_10

set_option maxHeartbeats 4000000 in
set_option maxRecDepth 100000 in
theorem c_X0_settle (l : Launch) (D : va_G) (kI kJ kL : ClassId) (a q : Nat → Nat) (S : Nat → Nat → Int32) (N : Nat → Nat → Nat → Int32) (F : Nat → Option Nat) (B : Nat) (sz : Nat) (j : Nat) (hj : j < B) : Met l yX0_settle wsX0_settle ({ frames := 1, cells := 0, slots := 0, locals := 21 }) (q_wP D (xTY kI kJ kL) (xW kI kL a q S N F B) sz [.ref (q (4 * j))]) (va_Qv (fun (u : (Nat → Nat → Int32) × (Nat → Nat → Nat → Int32)) => u = (S, xse N j 0 8)) (q_wB D (xTY kI kJ kL) (xW kI kL a q S N F B) sz (fun u : (Nat → Nat → Int32) × (Nat → Nat → Nat → Int32) => xW kI kL a q u.1 u.2 F B)) (va_A (xW kI kL a q S N F B) sz)) 0 0 (va_A (xW kI kL a q S N F B) sz) := by
  refine Met.ofW (cc := cX0_settle) (maxL := 2) (ret := none) (by decide) rfl ?_
  intro p e s m args below meth c s₁ Bd hml hv
  obtain ⟨rfl, hsz, hP, hK, hD0, hN⟩ := hv
  have hx := Bd.exec
  have hb := Bd.bytes
  have hr := Bd.returns
  have hts := atoms_spec (ws := wsX0_settle) Bd.pre
  have hown : s.vm.findClass RX0 = some m.cls := findClass_of_methodNamed Bd.named
  have hlocks := Bd.notSynchronized
  subst hsz
  have hD := hD0.self (sz := s.heap.size)
  generalize hAe : va_A (xW kI kL a q S N F B) s.heap.size = A at hD ⊢
  have hA : ∀ q : Nat, s.heap.size ≤ q → A q := fun q h => by rw [← hAe]; exact Or.inr h
  have hS : va_S A s.heap s.heap [] := va_S.rf
  have hl := lv_entry ([.ref (q (4 * j))]) (n := 2) (Nat.le_of_ble_eq_true rfl)
  rw [lg_entry_eq]
  generalize (lg_sl ([.ref (q (4 * j))]) ++ List.replicate (2 - (lg_sl ([.ref (q (4 * j))])).length) Slot.unset).toArray = ls at hl ⊢
  have hl : lv_has ls 2 [(0, .ref (q (4 * j)))] := hl
  have hinX0 : ∀ w ∈ u_ws RX0 TX0 6, w ∈ wsX0_settle := by decide +kernel
  refine lv_iconst (v := 0) hx hb dX0_settle_0 (by decide) ?_
  refine lv_istore_n (lv' := [(1, .int 0), (0, .ref (q (4 * j)))]) hx hb dX0_settle_1 rfl hl (by decide) rfl (fun ls hl => ?_)
  have loop2 : ∀ (n2 : Nat) (i : Nat), (9 ≤ i + n2) → (i ≤ 8) → (xse N j i (8 - i) = xse N j 0 8) → ∀ (H : Heap) (locs : List Loc), va_P D vwCl (xW kI kL a q S N F B) H → va_D A (xW kI kL a q S N F B) → va_S A s.heap H locs → ∀ (ls : Array Slot), lv_has ls 2 [(0, .ref (q (4 * j))), (1, .int (nI i))] → W p l e ({ frames := 1, cells := 0, slots := 0, locals := 21 }) s m ([.ref (q (4 * j))] : List Value).toArray below meth c H locs 0 0 (MQ below (va_Qv (fun (u : (Nat → Nat → Int32) × (Nat → Nat → Nat → Int32)) => u = (S, xse N j 0 8)) (q_wB D (xTY kI kJ kL) (xW kI kL a q S N F B) s.heap.size (fun u : (Nat → Nat → Int32) × (Nat → Nat → Nat → Int32) => xW kI kL a q u.1 u.2 F B)) A) ([.ref (q (4 * j))] : List Value).toArray s 0 0 A) (F0 m 2 ls []) := by
    intro n2
    induction n2 with
    | zero =>
      intro i hf hi hv
      exact absurd hf (by omega)
    | succ n2 ih2 =>
      intro i hf hi hv H locs hP hD hS ls hl
      refine lv_iload_n hx hb dX0_settle_2 rfl (lv_at hl 1 rfl) ?_
      refine lv_bipush (v := 8) hx hb dX0_settle_3 (by decide) ?_
      refine lv_icmp_ge (tgt := 31) hx hb dX0_settle_5 (by decide) (fun c_1 => ?_) (fun c_1 => ?_)
      · have hi2 : 8 ≤ i := (nI_leI (a := 8) (b := i) (by omega) (by omega)).mp c_1
        rw [show 8 - i = 0 by omega, xse] at hv
        refine lv_aload_n hx hb dX0_settle_31 rfl (lv_at hl 0 rfl) ?_
        refine lv_iconst (v := 3) hx hb dX0_settle_32 (by decide) ?_
        refine va_put (D := D) (ci := 3) (v := .int 3) (ty := .int) (C := RX0) (T := TX0) (N := 6) hx hb hts hinX0 tyX0 tyX0_ok nmX0 hown hK hP hD hS (8 + 4 * j) (xL_obj hj) rfl 0 (by decide) (hts (.fieldLink RX0 9 "LoanCases$Loan" "state" "I") (by decide +kernel)) (fun _ h9 => h9) rfl (by decide +kernel) rfl rfl (Nat.le_of_ble_eq_true rfl) dX0_settle_33 (fun H locs hP hD hS => ?_)
        rw [xL_setF hj 0 (by decide) 3] at hP hD
        have hP : va_P D vwCl (xW kI kL a q S (nU N j 0 0 3) F B) H := hP
        have hD : va_D A (xW kI kL a q S (nU N j 0 0 3) F B) := hD
        refine lv_aload_n hx hb dX0_settle_36 rfl (lv_at hl 0 rfl) ?_
        refine lv_bipush (v := -5) hx hb dX0_settle_37 (by decide) ?_
        refine va_put (D := D) (ci := 3) (v := .int (-5)) (ty := .int) (C := RX0) (T := TX0) (N := 6) hx hb hts hinX0 tyX0 tyX0_ok nmX0 hown hK hP hD hS (8 + 4 * j) (xL_obj hj) rfl 2 (by decide) (hts (.fieldLink RX0 18 "LoanCases$Loan" "stuckAt" "I") (by decide +kernel)) (fun _ h9 => h9) rfl (by decide +kernel) rfl rfl (Nat.le_of_ble_eq_true rfl) dX0_settle_39 (fun H locs hP hD hS => ?_)
        rw [xL_setF hj 2 (by decide) (-5)] at hP hD
        have hP : va_P D vwCl (xW kI kL a q S (nU (nU N j 0 0 3) j 2 0 (-5)) F B) H := hP
        have hD : va_D A (xW kI kL a q S (nU (nU N j 0 0 3) j 2 0 (-5)) F B) := hD
        exact W.vret hx hb hr (fun t9 ht hW => ⟨⟨(S, (nU (nU N j 0 0 3) j 2 0 (-5))), rfl, (by rw [← hv]), by rw [ht]; exact hP, va_K.moved hW.alike hK, by rw [hAe]; exact hD⟩, hS.F ht⟩) hS.2.2 dX0_settle_42
      · have hi2 : i < 8 := Nat.lt_of_not_le (fun h8 => c_1 ((nI_leI (a := 8) (b := i) (by omega) (by omega)).mpr h8))
        have hin : vp_in (nI i) 8 := vp_in_nI (by omega) (by omega)
        have hcl : (nI i).toNatClampNeg = i := nI_clamp (by omega)
        rw [show 8 - i = (8 - (i + 1)) + 1 by omega, xse] at hv
        refine lv_aload_n hx hb dX0_settle_8 rfl (lv_at hl 0 rfl) ?_
        refine va_get (D := D) (ci := 3) (v := .ref (q (4 * j + 3))) (C := RX0) (T := TX0) (N := 6) hx hb hts hinX0 hown hK hP (8 + 4 * j) (xL_obj hj) rfl 5 (by decide) (hts (.fieldLink RX0 28 "LoanCases$Loan" "load" "[I") (by decide +kernel)) (fun _ h9 => h9) rfl dX0_settle_9 ?_
        refine lv_iload_n hx hb dX0_settle_12 rfl (lv_at hl 1 rfl) ?_
        refine va_iald (f := N j 5) hx hb hK hP (8 + (4 * j + (2 + 1))) 0 (xL_row hj 2 (by decide)) rfl hin dX0_settle_13 ?_
        refine lv_bipush (v := -5) hx hb dX0_settle_14 (by decide) ?_
        refine lv_icmp_eq (tgt := 25) hx hb dX0_settle_16 (by decide) (fun c_2 => ?_) (fun c_2 => ?_)
        · rw [hcl] at c_2
          rw [cif_t c_2] at hv
          obtain ⟨x_3, ex_3⟩ : ∃ y : Int32, y = (nI i) + (1) := ⟨_, rfl⟩
          refine lv_iinc (v := x_3) (lv' := [(1, .int x_3), (0, .ref (q (4 * j)))]) hx hb dX0_settle_25 hl (k := 1) rfl (by rw [ex_3]; rfl) (by decide) rfl (fun ls hl => ?_)
          refine lv_goto (tgt := 2) hx hb dX0_settle_28 (by decide) ?_
          rw [show x_3 = nI (i + 1) from (ex_3).trans (nI_1 i)] at hl
          exact ih2 (i + 1) (by omega) (by omega) hv H locs hP hD hS ls (lv_sub hl [1, 0] rfl)
        · rw [hcl] at c_2
          rw [cif_f c_2] at hv
          refine lv_aload_n hx hb dX0_settle_19 rfl (lv_at hl 0 rfl) ?_
          refine lv_iload_n hx hb dX0_settle_20 rfl (lv_at hl 1 rfl) ?_
          refine qw_v (w2 := []) (va_runV (As := [.int (nI i)]) (rest := []) ⟨hx, hb, hml, hown, hts⟩ (c_X0_stick l D kI kJ kL a q S N F B H.size j (nI i) hj) (cwV 1 hts gX0_settle_X0_stick rfl rfl rfl (by decide +kernel) ⟨Nat.le_of_ble_eq_true rfl, Nat.le_of_ble_eq_true rfl⟩) (q_wV (w2 := []) hK hN (by rw [List.append_nil]; exact hP) (by rw [List.append_nil]; exact hD) (va_recv hK hP (ci := 3) (q0 := 8 + 4 * j) rfl (xL_obj hj))) rfl rfl hl.1 rfl (lv_room (Nat.le_of_ble_eq_true rfl)) dX0_settle_21 ⟨Nat.le_of_ble_eq_true rfl, Nat.le_of_ble_eq_true rfl⟩) (by rw [List.append_nil]; exact hP) (by rw [List.append_nil]; exact hD) hS hA (fun u_6 H locs h_4 hP hD hS => ?_)
          rw [List.append_nil] at hP hD
          obtain rfl := h_4
          have hP : va_P D vwCl (xW kI kL a q S (nU (nU N j 0 0 1) j 2 0 (nI i)) F B) H := hP
          have hD : va_D A (xW kI kL a q S (nU (nU N j 0 0 1) j 2 0 (nI i)) F B) := hD
          exact W.vret hx hb hr (fun t9 ht hW => ⟨⟨(S, (nU (nU N j 0 0 1) j 2 0 (nI i))), rfl, (by rw [← hv]), by rw [ht]; exact hP, va_K.moved hW.alike hK, by rw [hAe]; exact hD⟩, hS.F ht⟩) hS.2.2 dX0_settle_24
  exact loop2 9 0 (by omega) (by omega) rfl s.heap [] hP hD hS ls (lv_sub hl [1, 0] rfl)

set_option maxHeartbeats 4000000 in
set_option maxRecDepth 100000 in
theorem c_X1_loadWant (l : Launch) (D : va_G) (kI kJ kL : ClassId) (a q : Nat → Nat) (S : Nat → Nat → Int32) (N : Nat → Nat → Nat → Int32) (F : Nat → Option Nat) (B : Nat) (sz : Nat) (j : Nat) (w : Int32) (hj : j < B) (hw8 : vp_in w 8) (hbx : vp_in (N j 3 w.toNatClampNeg) 110) (hn : (S 6 0).toInt ≤ 110) : Met l yX1_loadWant wsX1_loadWant ({ frames := 2, cells := 0, slots := 0, locals := 43 }) (q_wP D (xTY kI kJ kL) (xW kI kL a q S N F B) sz [.ref (a 0), .ref (q (4 * j)), .int w]) (va_Qi (fun r (u : (Nat → Nat → Int32) × (Nat → Nat → Nat → Int32)) => r = (xlw S N j w).1 ∧ u = ((xlw S N j w).2.1, (xlw S N j w).2.2)) (q_wB D (xTY kI kJ kL) (xW kI kL a q S N F B) sz (fun u : (Nat → Nat → Int32) × (Nat → Nat → Nat → Int32) => xW kI kL a q u.1 u.2 F B)) (va_A (xW kI kL a q S N F B) sz)) 0 0 (va_A (xW kI kL a q S N F B) sz) := by
  refine Met.ofW (cc := cX1_loadWant) (maxL := 5) (ret := (some .int)) (by decide) rfl ?_
  intro p e s m args below meth c s₁ Bd hml hv
  obtain ⟨rfl, hsz, hP, hK, hD0, hN⟩ := hv
  have hx := Bd.exec
  have hb := Bd.bytes
  have hr := Bd.returns
  have hts := atoms_spec (ws := wsX1_loadWant) Bd.pre
  have hown : s.vm.findClass RX1 = some m.cls := findClass_of_methodNamed Bd.named
  have hlocks := Bd.notSynchronized
  subst hsz
  have hD := hD0.self (sz := s.heap.size)
  generalize hAe : va_A (xW kI kL a q S N F B) s.heap.size = A at hD ⊢
  have hA : ∀ q : Nat, s.heap.size ≤ q → A q := fun q h => by rw [← hAe]; exact Or.inr h
  have hS : va_S A s.heap s.heap [] := va_S.rf
  have hl := lv_entry ([.ref (a 0), .ref (q (4 * j)), .int w]) (n := 5) (Nat.le_of_ble_eq_true rfl)
  rw [lg_entry_eq]
  generalize (lg_sl ([.ref (a 0), .ref (q (4 * j)), .int w]) ++ List.replicate (5 - (lg_sl ([.ref (a 0), .ref (q (4 * j)), .int w])).length) Slot.unset).toArray = ls at hl ⊢
  have hl : lv_has ls 5 [(0, .ref (a 0)), (1, .ref (q (4 * j))), (2, .int w)] := hl
  have hinX0 : ∀ w ∈ u_ws RX0 TX0 6, w ∈ wsX1_loadWant := by decide +kernel
  have hinX1 : ∀ w ∈ u_ws RX1 TX1 9, w ∈ wsX1_loadWant := by decide +kernel
  refine lv_aload_n hx hb dX1_loadWant_0 rfl (lv_at hl 1 rfl) ?_
  refine va_getN (D := D) (ci := 3) (v := .ref (q (4 * j + 1))) (C := RX0) (T := TX0) (N := 6) hx hb hts hinX0 hown hK hP (8 + 4 * j) (xL_obj hj) rfl 3 (by decide) (va_Nw.use rfl hN.2.2.1) (fun _ h9 => h9) rfl dX1_loadWant_1 ?_
  refine lv_iload_n hx hb dX1_loadWant_4 rfl (lv_at hl 2 rfl) ?_
  refine va_iald (f := N j 3) hx hb hK hP (8 + (4 * j + (0 + 1))) 0 (xL_row hj 0 (by decide)) rfl hw8 dX1_loadWant_5 ?_
  refine lv_istore_n (lv' := [(3, .int (N j 3 w.toNatClampNeg)), (0, .ref (a 0)), (1, .ref (q (4 * j))), (2, .int w)]) hx hb dX1_loadWant_6 rfl hl (by decide) rfl (fun ls hl => ?_)
  refine lv_aload_n hx hb dX1_loadWant_7 rfl (lv_at hl 1 rfl) ?_
  refine va_get (D := D) (ci := 4) (v := .ref (a 4)) (C := RX1) (T := TX1) (N := 9) hx hb hts hinX1 hown hK hP 0 rfl rfl 3 (by decide) (hts (.fieldLink RX1 19 "LoanCases" "holds" "[I") (by decide +kernel)) (fun _ h9 => h9) rfl dX1_loadWant_8 ?_
  refine lv_iload_n hx hb dX1_loadWant_11 rfl (lv_at hl 0 rfl) ?_
  refine va_iald (f := S 3) hx hb hK hP 4 0 rfl rfl hbx dX1_loadWant_12 ?_
  refine lv_istore (lv' := [(4, .int (S 3 (N j 3 w.toNatClampNeg).toNatClampNeg)), (3, .int (N j 3 w.toNatClampNeg)), (0, .ref (a 0)), (1, .ref (q (4 * j))), (2, .int w)]) hx hb dX1_loadWant_13 hl (by decide) rfl (fun ls hl => ?_)
  refine lv_iload hx hb dX1_loadWant_15 (lv_at hl 0 rfl) ?_
  refine lv_bipush (v := -5) hx hb dX1_loadWant_17 (by decide) ?_
  refine lv_icmp_ne (tgt := 24) hx hb dX1_loadWant_19 (by decide) (fun c_1 => ?_) (fun c_1 => ?_)
  · refine lv_aload_n hx hb dX1_loadWant_24 rfl (lv_at hl 2 rfl) ?_
    refine lv_iload hx hb dX1_loadWant_25 (lv_at hl 0 rfl) ?_
    refine lv_aload_n hx hb dX1_loadWant_27 rfl (lv_at hl 3 rfl) ?_
    refine va_getN (D := D) (ci := 3) (v := .ref (q (4 * j + 2))) (C := RX0) (T := TX0) (N := 6) hx hb hts hinX0 hown hK hP (8 + 4 * j) (xL_obj hj) rfl 4 (by decide) (va_Nw.use rfl hN.2.2.2.1) (fun _ h9 => h9) rfl dX1_loadWant_28 ?_
    refine lv_iload_n hx hb dX1_loadWant_31 rfl (lv_at hl 4 rfl) ?_
    refine va_iald (f := N j 4) hx hb hK hP (8 + (4 * j + (1 + 1))) 0 (xL_row hj 1 (by decide)) rfl hw8 dX1_loadWant_32 ?_
    refine vp_callSi (W.runV (As := [.int (S 3 (N j 3 w.toNatClampNeg).toNatClampNeg), .int (N j 4 w.toNatClampNeg)]) (rest := []) ⟨hx, hb, hml, hown, hts⟩ (c_X1_isOf l D kI kJ kL a q S N F B (S 3 (N j 3 w.toNatClampNeg).toNatClampNeg) (N j 4 w.toNatClampNeg) hn) (cwV 2 hts gX1_loadWant_X1_isOf rfl rfl rfl (by decide +kernel) ⟨Nat.le_of_ble_eq_true rfl, Nat.le_of_ble_eq_true rfl⟩) (q_rV (w2 := []) hK hN (by rw [List.append_nil]; exact hP) (va_recv hK hP (ci := 4) (q0 := 0) rfl rfl)) rfl rfl hl.1 rfl (lv_room (Nat.le_of_ble_eq_true rfl)) dX1_loadWant_33 ⟨Nat.le_of_ble_eq_true rfl, Nat.le_of_ble_eq_true rfl⟩) (fun r_h_2 h_2 => ?_)
    rcases h_2 with ⟨rfl, h_2⟩ | ⟨rfl, h_2⟩
    · refine lv_if_ne (tgt := 41) hx hb dX1_loadWant_36 (by decide) (fun c_3 => ?_) (fun c_3 => absurd c_3 (by decide))
      refine lv_aload_n hx hb dX1_loadWant_41 rfl (lv_at hl 3 rfl) ?_
      refine va_getN (D := D) (ci := 3) (v := .ref (q (4 * j + 3))) (C := RX0) (T := TX0) (N := 6) hx hb hts hinX0 hown hK hP (8 + 4 * j) (xL_obj hj) rfl 5 (by decide) (va_Nw.use rfl hN.2.2.2.2.2.1) (fun _ h9 => h9) rfl dX1_loadWant_42 ?_
      refine lv_iload_n hx hb dX1_loadWant_45 rfl (lv_at hl 4 rfl) ?_
      refine lv_iload hx hb dX1_loadWant_46 (lv_at hl 0 rfl) ?_
      refine va_iast hx hb hK hP hD hS (8 + (4 * j + (2 + 1))) 0 (xL_row hj 2 (by decide)) rfl hw8 dX1_loadWant_48 (fun H locs hP hD hS => ?_)
      rw [xL_setR hj 2 (by decide) w.toNatClampNeg (S 3 (N j 3 w.toNatClampNeg).toNatClampNeg)] at hP hD
      have hP : va_P D vwCl (xW kI kL a q S (nU N j 5 w.toNatClampNeg (S 3 (N j 3 w.toNatClampNeg).toNatClampNeg)) F B) H := hP
      have hD : va_D A (xW kI kL a q S (nU N j 5 w.toNatClampNeg (S 3 (N j 3 w.toNatClampNeg).toNatClampNeg)) F B) := hD
      refine lv_aload_n hx hb dX1_loadWant_49 rfl (lv_at hl 2 rfl) ?_
      refine va_get (D := D) (ci := 4) (v := .ref (a 4)) (C := RX1) (T := TX1) (N := 9) hx hb hts hinX1 hown hK hP 0 rfl rfl 3 (by decide) (hts (.fieldLink RX1 19 "LoanCases" "holds" "[I") (by decide +kernel)) (fun _ h9 => h9) rfl dX1_loadWant_50 ?_
      refine lv_iload_n hx hb dX1_loadWant_53 rfl (lv_at hl 1 rfl) ?_
      refine lv_bipush (v := -5) hx hb dX1_loadWant_54 (by decide) ?_
      refine va_iast hx hb hK hP hD hS 4 0 rfl rfl hbx dX1_loadWant_56 (fun H locs hP hD hS => ?_)
      have hP : va_P D vwCl (xW kI kL a q (sU S 3 ((N j 3 w.toNatClampNeg).toNatClampNeg) (-5)) (nU N j 5 w.toNatClampNeg (S 3 (N j 3 w.toNatClampNeg).toNatClampNeg)) F B) H := hP
      have hD : va_D A (xW kI kL a q (sU S 3 ((N j 3 w.toNatClampNeg).toNatClampNeg) (-5)) (nU N j 5 w.toNatClampNeg (S 3 (N j 3 w.toNatClampNeg).toNatClampNeg)) F B) := hD
      refine lv_iconst (v := 0) hx hb dX1_loadWant_57 (by decide) ?_
      exact W.iret (v := 0) hx hb hr (fun t9 ht hW => ⟨⟨0, ((sU S 3 ((N j 3 w.toNatClampNeg).toNatClampNeg) (-5)), (nU N j 5 w.toNatClampNeg (S 3 (N j 3 w.toNatClampNeg).toNatClampNeg))), rfl, ⟨by simp only [xlw, cif_f c_1, cif_t h_2], by simp only [xlw, cif_f c_1, cif_t h_2]⟩, by rw [ht]; exact hP, va_K.moved hW.alike hK, by rw [hAe]; exact hD⟩, hS.F ht⟩) hS.2.2 dX1_loadWant_58
    · refine lv_if_ne (tgt := 41) hx hb dX1_loadWant_36 (by decide) (fun c_4 => absurd c_4 (by decide)) (fun c_4 => ?_)
      refine lv_iconst (v := 1) hx hb dX1_loadWant_39 (by decide) ?_
      exact W.iret (v := 1) hx hb hr (fun t9 ht hW => ⟨⟨1, (S, N), rfl, ⟨by simp only [xlw, cif_f c_1, cif_f h_2], by simp only [xlw, cif_f c_1, cif_f h_2]⟩, by rw [ht]; exact hP, va_K.moved hW.alike hK, by rw [hAe]; exact hD⟩, hS.F ht⟩) hS.2.2 dX1_loadWant_40
  · refine lv_iconst (v := 2) hx hb dX1_loadWant_22 (by decide) ?_
    exact W.iret (v := 2) hx hb hr (fun t9 ht hW => ⟨⟨2, (S, N), rfl, ⟨by simp only [xlw, cif_t c_1], by simp only [xlw, cif_t c_1]⟩, by rw [ht]; exact hP, va_K.moved hW.alike hK, by rw [hAe]; exact hD⟩, hS.F ht⟩) hS.2.2 dX1_loadWant_23

set_option maxHeartbeats 4000000 in
set_option maxRecDepth 100000 in
theorem c_X1_unloadWant (l : Launch) (D : va_G) (kI kJ kL : ClassId) (a q : Nat → Nat) (S : Nat → Nat → Int32) (N : Nat → Nat → Nat → Int32) (F : Nat → Option Nat) (B : Nat) (sz : Nat) (j : Nat) (w : Int32) (hj : j < B) (hw8 : vp_in w 8) (hbx : vp_in (N j 3 w.toNatClampNeg) 110) (hn : (S 6 0).toInt ≤ 110) : Met l yX1_unloadWant wsX1_unloadWant ({ frames := 3, cells := 0, slots := 0, locals := 66 }) (q_wP D (xTY kI kJ kL) (xW kI kL a q S N F B) sz [.ref (a 0), .ref (q (4 * j)), .int w]) (va_Qi (fun r (u : (Nat → Nat → Int32) × (Nat → Nat → Nat → Int32)) => r = (xuw S N j w).1 ∧ u = ((xuw S N j w).2.1, (xuw S N j w).2.2)) (q_wB D (xTY kI kJ kL) (xW kI kL a q S N F B) sz (fun u : (Nat → Nat → Int32) × (Nat → Nat → Nat → Int32) => xW kI kL a q u.1 u.2 F B)) (va_A (xW kI kL a q S N F B) sz)) 0 0 (va_A (xW kI kL a q S N F B) sz) := by
  refine Met.ofW (cc := cX1_unloadWant) (maxL := 5) (ret := (some .boolean)) (by decide) rfl ?_
  intro p e s m args below meth c s₁ Bd hml hv
  obtain ⟨rfl, hsz, hP, hK, hD0, hN⟩ := hv
  have hx := Bd.exec
  have hb := Bd.bytes
  have hr := Bd.returns
  have hts := atoms_spec (ws := wsX1_unloadWant) Bd.pre
  have hown : s.vm.findClass RX1 = some m.cls := findClass_of_methodNamed Bd.named
  have hlocks := Bd.notSynchronized
  subst hsz
  have hD := hD0.self (sz := s.heap.size)
  generalize hAe : va_A (xW kI kL a q S N F B) s.heap.size = A at hD ⊢
  have hA : ∀ q : Nat, s.heap.size ≤ q → A q := fun q h => by rw [← hAe]; exact Or.inr h
  have hS : va_S A s.heap s.heap [] := va_S.rf
  have hl := lv_entry ([.ref (a 0), .ref (q (4 * j)), .int w]) (n := 5) (Nat.le_of_ble_eq_true rfl)
  rw [lg_entry_eq]
  generalize (lg_sl ([.ref (a 0), .ref (q (4 * j)), .int w]) ++ List.replicate (5 - (lg_sl ([.ref (a 0), .ref (q (4 * j)), .int w])).length) Slot.unset).toArray = ls at hl ⊢
  have hl : lv_has ls 5 [(0, .ref (a 0)), (1, .ref (q (4 * j))), (2, .int w)] := hl
  have hinX0 : ∀ w ∈ u_ws RX0 TX0 6, w ∈ wsX1_unloadWant := by decide +kernel
  have hinX1 : ∀ w ∈ u_ws RX1 TX1 9, w ∈ wsX1_unloadWant := by decide +kernel
  refine lv_aload_n hx hb dX1_unloadWant_0 rfl (lv_at hl 1 rfl) ?_
  refine va_getN (D := D) (ci := 3) (v := .ref (q (4 * j + 3))) (C := RX0) (T := TX0) (N := 6) hx hb hts hinX0 hown hK hP (8 + 4 * j) (xL_obj hj) rfl 5 (by decide) (va_Nw.use rfl hN.2.2.2.2.2.1) (fun _ h9 => h9) rfl dX1_unloadWant_1 ?_
  refine lv_iload_n hx hb dX1_unloadWant_4 rfl (lv_at hl 2 rfl) ?_
  refine va_iald (f := N j 5) hx hb hK hP (8 + (4 * j + (2 + 1))) 0 (xL_row hj 2 (by decide)) rfl hw8 dX1_unloadWant_5 ?_
  refine lv_istore_n (lv' := [(3, .int (N j 5 w.toNatClampNeg)), (0, .ref (a 0)), (1, .ref (q (4 * j))), (2, .int w)]) hx hb dX1_unloadWant_6 rfl hl (by decide) rfl (fun ls hl => ?_)
  refine lv_aload_n hx hb dX1_unloadWant_7 rfl (lv_at hl 2 rfl) ?_
  refine va_getN (D := D) (ci := 3) (v := .ref (q (4 * j + 1))) (C := RX0) (T := TX0) (N := 6) hx hb hts hinX0 hown hK hP (8 + 4 * j) (xL_obj hj) rfl 3 (by decide) (va_Nw.use rfl hN.2.2.1) (fun _ h9 => h9) rfl dX1_unloadWant_8 ?_
  refine lv_iload_n hx hb dX1_unloadWant_11 rfl (lv_at hl 3 rfl) ?_
  refine va_iald (f := N j 3) hx hb hK hP (8 + (4 * j + (0 + 1))) 0 (xL_row hj 0 (by decide)) rfl hw8 dX1_unloadWant_12 ?_
  refine lv_istore (lv' := [(4, .int (N j 3 w.toNatClampNeg)), (3, .int (N j 5 w.toNatClampNeg)), (0, .ref (a 0)), (1, .ref (q (4 * j))), (2, .int w)]) hx hb dX1_unloadWant_13 hl (by decide) rfl (fun ls hl => ?_)
  refine lv_iload_n hx hb dX1_unloadWant_15 rfl (lv_at hl 1 rfl) ?_
  refine lv_bipush (v := -5) hx hb dX1_unloadWant_16 (by decide) ?_
  refine lv_icmp_eq (tgt := 43) hx hb dX1_unloadWant_18 (by decide) (fun c_1 => ?_) (fun c_1 => ?_)
  · refine lv_iconst (v := 0) hx hb dX1_unloadWant_43 (by decide) ?_
    exact W.zret (v := 0) hx hb hr rfl (fun t9 ht hW => ⟨⟨0, (S, N), rfl, ⟨by simp only [xuw, cif_t c_1], by simp only [xuw, cif_t c_1]⟩, by rw [ht]; exact hP, va_K.moved hW.alike hK, by rw [hAe]; exact hD⟩, hS.F ht⟩) hS.2.2 dX1_unloadWant_44
  · refine lv_aload_n hx hb dX1_unloadWant_21 rfl (lv_at hl 2 rfl) ?_
    refine va_get (D := D) (ci := 4) (v := .ref (a 4)) (C := RX1) (T := TX1) (N := 9) hx hb hts hinX1 hown hK hP 0 rfl rfl 3 (by decide) (hts (.fieldLink RX1 19 "LoanCases" "holds" "[I") (by decide +kernel)) (fun _ h9 => h9) rfl dX1_unloadWant_22 ?_
    refine lv_iload hx hb dX1_unloadWant_25 (lv_at hl 0 rfl) ?_
    refine va_iald (f := S 3) hx hb hK hP 4 0 rfl rfl hbx dX1_unloadWant_27 ?_
    refine lv_bipush (v := -5) hx hb dX1_unloadWant_28 (by decide) ?_
    refine lv_icmp_ne (tgt := 43) hx hb dX1_unloadWant_30 (by decide) (fun c_2 => ?_) (fun c_2 => ?_)
    · refine lv_iconst (v := 0) hx hb dX1_unloadWant_43 (by decide) ?_
      exact W.zret (v := 0) hx hb hr rfl (fun t9 ht hW => ⟨⟨0, (S, N), rfl, ⟨by simp only [xuw, cif_f c_1, cif_f c_2], by simp only [xuw, cif_f c_1, cif_f c_2]⟩, by rw [ht]; exact hP, va_K.moved hW.alike hK, by rw [hAe]; exact hD⟩, hS.F ht⟩) hS.2.2 dX1_unloadWant_44
    · refine lv_aload_n hx hb dX1_unloadWant_33 rfl (lv_at hl 2 rfl) ?_
      refine lv_iload_n hx hb dX1_unloadWant_34 rfl (lv_at hl 1 rfl) ?_
      refine lv_iload hx hb dX1_unloadWant_35 (lv_at hl 0 rfl) ?_
      refine vp_callSi (W.runV (As := [.int (N j 5 w.toNatClampNeg), .int (N j 3 w.toNatClampNeg)]) (rest := []) ⟨hx, hb, hml, hown, hts⟩ (c_X1_leadsTo l D kI kJ kL a q S N F B (N j 5 w.toNatClampNeg) (N j 3 w.toNatClampNeg) hn) (cwV 2 hts gX1_unloadWant_X1_leadsTo rfl rfl rfl (by decide +kernel) ⟨Nat.le_of_ble_eq_true rfl, Nat.le_of_ble_eq_true rfl⟩) (q_rV (w2 := []) hK hN (by rw [List.append_nil]; exact hP) (va_recv hK hP (ci := 4) (q0 := 0) rfl rfl)) rfl rfl hl.1 rfl (lv_room (Nat.le_of_ble_eq_true rfl)) dX1_unloadWant_37 ⟨Nat.le_of_ble_eq_true rfl, Nat.le_of_ble_eq_true rfl⟩) (fun r_h_3 h_3 => ?_)
      rcases h_3 with ⟨rfl, h_3⟩ | ⟨rfl, h_3⟩
      · refine lv_if_eq (tgt := 45) hx hb dX1_unloadWant_40 (by decide) (fun c_4 => absurd c_4 (by decide)) (fun c_4 => ?_)
        refine lv_iconst (v := 0) hx hb dX1_unloadWant_43 (by decide) ?_
        exact W.zret (v := 0) hx hb hr rfl (fun t9 ht hW => ⟨⟨0, (S, N), rfl, ⟨by simp only [xuw, cif_f c_1, cif_t c_2, cif_t h_3], by simp only [xuw, cif_f c_1, cif_t c_2, cif_t h_3]⟩, by rw [ht]; exact hP, va_K.moved hW.alike hK, by rw [hAe]; exact hD⟩, hS.F ht⟩) hS.2.2 dX1_unloadWant_44
      · refine lv_if_eq (tgt := 45) hx hb dX1_unloadWant_40 (by decide) (fun c_5 => ?_) (fun c_5 => absurd c_5 (by decide))
        refine lv_aload_n hx hb dX1_unloadWant_45 rfl (lv_at hl 2 rfl) ?_
        refine va_get (D := D) (ci := 4) (v := .ref (a 4)) (C := RX1) (T := TX1) (N := 9) hx hb hts hinX1 hown hK hP 0 rfl rfl 3 (by decide) (hts (.fieldLink RX1 19 "LoanCases" "holds" "[I") (by decide +kernel)) (fun _ h9 => h9) rfl dX1_unloadWant_46 ?_
        refine lv_iload hx hb dX1_unloadWant_49 (lv_at hl 0 rfl) ?_
        refine lv_iload_n hx hb dX1_unloadWant_51 rfl (lv_at hl 1 rfl) ?_
        refine va_iast hx hb hK hP hD hS 4 0 rfl rfl hbx dX1_unloadWant_52 (fun H locs hP hD hS => ?_)
        have hP : va_P D vwCl (xW kI kL a q (sU S 3 ((N j 3 w.toNatClampNeg).toNatClampNeg) (N j 5 w.toNatClampNeg)) N F B) H := hP
        have hD : va_D A (xW kI kL a q (sU S 3 ((N j 3 w.toNatClampNeg).toNatClampNeg) (N j 5 w.toNatClampNeg)) N F B) := hD
        refine lv_aload_n hx hb dX1_unloadWant_53 rfl (lv_at hl 3 rfl) ?_
        refine va_getN (D := D) (ci := 3) (v := .ref (q (4 * j + 3))) (C := RX0) (T := TX0) (N := 6) hx hb hts hinX0 hown hK hP (8 + 4 * j) (xL_obj hj) rfl 5 (by decide) (va_Nw.use rfl hN.2.2.2.2.2.1) (fun _ h9 => h9) rfl dX1_unloadWant_54 ?_
        refine lv_iload_n hx hb dX1_unloadWant_57 rfl (lv_at hl 4 rfl) ?_
        refine lv_bipush (v := -5) hx hb dX1_unloadWant_58 (by decide) ?_
        refine va_iast hx hb hK hP hD hS (8 + (4 * j + (2 + 1))) 0 (xL_row hj 2 (by decide)) rfl hw8 dX1_unloadWant_60 (fun H locs hP hD hS => ?_)
        rw [xL_setR hj 2 (by decide) w.toNatClampNeg (-5)] at hP hD
        have hP : va_P D vwCl (xW kI kL a q (sU S 3 ((N j 3 w.toNatClampNeg).toNatClampNeg) (N j 5 w.toNatClampNeg)) (nU N j 5 w.toNatClampNeg (-5)) F B) H := hP
        have hD : va_D A (xW kI kL a q (sU S 3 ((N j 3 w.toNatClampNeg).toNatClampNeg) (N j 5 w.toNatClampNeg)) (nU N j 5 w.toNatClampNeg (-5)) F B) := hD
        refine lv_iconst (v := 1) hx hb dX1_unloadWant_61 (by decide) ?_
        exact W.zret (v := 1) hx hb hr rfl (fun t9 ht hW => ⟨⟨1, ((sU S 3 ((N j 3 w.toNatClampNeg).toNatClampNeg) (N j 5 w.toNatClampNeg)), (nU N j 5 w.toNatClampNeg (-5))), rfl, ⟨by simp only [xuw, cif_f c_1, cif_t c_2, cif_f h_3], by simp only [xuw, cif_f c_1, cif_t c_2, cif_f h_3]⟩, by rw [ht]; exact hP, va_K.moved hW.alike hK, by rw [hAe]; exact hD⟩, hS.F ht⟩) hS.2.2 dX1_unloadWant_62

set_option maxHeartbeats 4000000 in
set_option maxRecDepth 100000 in
theorem c_X1_want (l : Launch) (D : va_G) (kI kJ kL : ClassId) (a q : Nat → Nat) (S : Nat → Nat → Int32) (N : Nat → Nat → Nat → Int32) (F : Nat → Option Nat) (B : Nat) (sz : Nat) (l_ : Int32) (b : Int32) (k : Int32) (hb7 : S 7 0 = nI B) (hB : B ≤ 8) (hF : ∀ j, j < B → F j = some (q (4 * j))) (hn : (S 6 0).toInt ≤ 110) (hwn : ∀ j, j < B → ¬ N j 1 0 < 0) : Met l yX1_want wsX1_want ({ frames := 2, cells := 0, slots := 0, locals := 42 }) (q_wP D (xTY kI kJ kL) (xW kI kL a q S N F B) sz [.ref (a 0), .int l_, .int b, .int k]) (va_Qi (fun r (u : (Nat → Nat → Int32) × (Nat → Nat → Nat → Int32)) => r = (xs_want S N l_ b k).1 ∧ u = (S, (xs_want S N l_ b k).2)) (q_wB D (xTY kI kJ kL) (xW kI kL a q S N F B) sz (fun u : (Nat → Nat → Int32) × (Nat → Nat → Nat → Int32) => xW kI kL a q u.1 u.2 F B)) (va_A (xW kI kL a q S N F B) sz)) 0 0 (va_A (xW kI kL a q S N F B) sz) := by
  refine Met.ofW (cc := cX1_want) (maxL := 5) (ret := (some .int)) (by decide) rfl ?_
  intro p e s m args below meth c s₁ Bd hml hv
  obtain ⟨rfl, hsz, hP, hK, hD0, hN⟩ := hv
  have hx := Bd.exec
  have hb := Bd.bytes
  have hr := Bd.returns
  have hts := atoms_spec (ws := wsX1_want) Bd.pre
  have hown : s.vm.findClass RX1 = some m.cls := findClass_of_methodNamed Bd.named
  have hlocks := Bd.notSynchronized
  subst hsz
  have hD := hD0.self (sz := s.heap.size)
  generalize hAe : va_A (xW kI kL a q S N F B) s.heap.size = A at hD ⊢
  have hA : ∀ q : Nat, s.heap.size ≤ q → A q := fun q h => by rw [← hAe]; exact Or.inr h
  have hS : va_S A s.heap s.heap [] := va_S.rf
  have hl := lv_entry ([.ref (a 0), .int l_, .int b, .int k]) (n := 5) (Nat.le_of_ble_eq_true rfl)
  rw [lg_entry_eq]
  generalize (lg_sl ([.ref (a 0), .int l_, .int b, .int k]) ++ List.replicate (5 - (lg_sl ([.ref (a 0), .int l_, .int b, .int k])).length) Slot.unset).toArray = ls at hl ⊢
  have hl : lv_has ls 5 [(0, .ref (a 0)), (1, .int l_), (2, .int b), (3, .int k)] := hl
  have hinX0 : ∀ w ∈ u_ws RX0 TX0 6, w ∈ wsX1_want := by decide +kernel
  have hinX1 : ∀ w ∈ u_ws RX1 TX1 9, w ∈ wsX1_want := by decide +kernel
  refine lv_aload_n hx hb dX1_want_0 rfl (lv_at hl 0 rfl) ?_
  refine lv_iload_n hx hb dX1_want_1 rfl (lv_at hl 1 rfl) ?_
  refine va_csq (W.runV (As := [.int l_]) (rest := []) ⟨hx, hb, hml, hown, hts⟩ (c_X1_loanOf l D kI kJ kL a q S N F B l_ hb7 hB hF) (cwV 1 hts gX1_want_X1_loanOf rfl rfl rfl (by decide +kernel) ⟨Nat.le_of_ble_eq_true rfl, Nat.le_of_ble_eq_true rfl⟩) (q_rV (w2 := []) hK hN (by rw [List.append_nil]; exact hP) (va_recv hK hP (ci := 4) (q0 := 0) rfl rfl)) rfl rfl hl.1 rfl (lv_room (Nat.le_of_ble_eq_true rfl)) dX1_want_2 ⟨Nat.le_of_ble_eq_true rfl, Nat.le_of_ble_eq_true rfl⟩) (fun r_2 h_1 => ?_)
  rcases h_1 with ⟨rfl, h_1⟩ | ⟨rfl, h_1, h_1j⟩
  · refine lv_astoreN (lv' := [(4, .null), (0, .ref (a 0)), (1, .int l_), (2, .int b), (3, .int k)]) hx hb dX1_want_5 hl (by decide) rfl (fun ls hl => ?_)
    refine lv_aloadN hx hb dX1_want_7 (lv_at hl 0 rfl) ?_
    refine lv_ifnullN (tgt := 20) hx hb dX1_want_9 (by decide) ?_
    refine lv_iconst (v := -1) hx hb dX1_want_20 (by decide) ?_
    exact W.iret (v := (-1)) hx hb hr (fun t9 ht hW => ⟨⟨(-1), (S, N), rfl, ⟨by simp only [xs_want, cif_f h_1, nU_s, nU_o (k := 3) (k' := 1) (by decide), nU_o (k := 4) (k' := 1) (by decide)], by simp only [xs_want, cif_f h_1, nU_s, nU_o (k := 3) (k' := 1) (by decide), nU_o (k := 4) (k' := 1) (by decide)]⟩, by rw [ht]; exact hP, va_K.moved hW.alike hK, by rw [hAe]; exact hD⟩, hS.F ht⟩) hS.2.2 dX1_want_21
  · refine lv_astore (lv' := [(4, .ref (q (4 * l_.toNatClampNeg))), (0, .ref (a 0)), (1, .int l_), (2, .int b), (3, .int k)]) hx hb dX1_want_5 hl (by decide) rfl (fun ls hl => ?_)
    refine lv_aload hx hb dX1_want_7 (lv_at hl 0 rfl) ?_
    refine lv_ifnull hx hb dX1_want_9 ?_
    refine lv_aload_n hx hb dX1_want_12 rfl (lv_at hl 1 rfl) ?_
    refine lv_iload_n hx hb dX1_want_13 rfl (lv_at hl 3 rfl) ?_
    refine vp_callSi (W.runV (As := [.int b]) (rest := []) ⟨hx, hb, hml, hown, hts⟩ (c_X1_isCase l D kI kJ kL a q S N F B b hn) (cwV 1 hts gX1_want_X1_isCase rfl rfl rfl (by decide +kernel) ⟨Nat.le_of_ble_eq_true rfl, Nat.le_of_ble_eq_true rfl⟩) (q_rV (w2 := []) hK hN (by rw [List.append_nil]; exact hP) (va_recv hK hP (ci := 4) (q0 := 0) rfl rfl)) rfl rfl hl.1 rfl (lv_room (Nat.le_of_ble_eq_true rfl)) dX1_want_14 ⟨Nat.le_of_ble_eq_true rfl, Nat.le_of_ble_eq_true rfl⟩) (fun r_h_3 h_3 => ?_)
    rcases h_3 with ⟨rfl, h_3⟩ | ⟨rfl, h_3⟩
    · refine lv_if_ne (tgt := 22) hx hb dX1_want_17 (by decide) (fun c_4 => ?_) (fun c_4 => absurd c_4 (by decide))
      refine lv_iload_n hx hb dX1_want_22 rfl (lv_at hl 4 rfl) ?_
      refine lv_iconst (v := 0) hx hb dX1_want_23 (by decide) ?_
      refine lv_bipush (v := 20) hx hb dX1_want_24 (by decide) ?_
      refine vp_callSi (W.runS (As := [.int k, .int 0, .int 20]) (rest := []) ⟨hx, hb, hml, hown, hts⟩ (c_X1_between l D kI kJ kL k 0 20) (va_cwS 3 hts gX1_want_X1_between rfl rfl rfl (by decide +kernel) ⟨Nat.le_of_ble_eq_true rfl, Nat.le_of_ble_eq_true rfl⟩) (q_rS0 hK hN) rfl rfl hl.1 rfl (lv_room (Nat.le_of_ble_eq_true rfl)) dX1_want_26 ⟨Nat.le_of_ble_eq_true rfl, Nat.le_of_ble_eq_true rfl⟩) (fun r_h_5 h_5 => ?_)
      rcases h_5 with ⟨rfl, h_5⟩ | ⟨rfl, h_5⟩
      · refine lv_if_ne (tgt := 35) hx hb dX1_want_29 (by decide) (fun c_6 => ?_) (fun c_6 => absurd c_6 (by decide))
        refine lv_aload hx hb dX1_want_35 (lv_at hl 0 rfl) ?_
        refine va_getN (D := D) (ci := 3) (v := .int (N l_.toNatClampNeg 0 0)) (C := RX0) (T := TX0) (N := 6) hx hb hts hinX0 hown hK hP (8 + 4 * l_.toNatClampNeg) (xL_obj h_1j) rfl 0 (by decide) (va_Nw.use rfl hN.1) (fun _ h9 => h9) rfl dX1_want_37 ?_
        refine lv_if_eq (tgt := 46) hx hb dX1_want_40 (by decide) (fun c_7 => ?_) (fun c_7 => ?_)
        · refine lv_aload hx hb dX1_want_46 (lv_at hl 0 rfl) ?_
          refine va_getN (D := D) (ci := 3) (v := .int (N l_.toNatClampNeg 1 0)) (C := RX0) (T := TX0) (N := 6) hx hb hts hinX0 hown hK hP (8 + 4 * l_.toNatClampNeg) (xL_obj h_1j) rfl 1 (by decide) (va_Nw.use rfl hN.2.1) (fun _ h9 => h9) rfl dX1_want_48 ?_
          refine lv_bipush (v := 8) hx hb dX1_want_51 (by decide) ?_
          refine lv_icmp_lt (tgt := 59) hx hb dX1_want_53 (by decide) (fun c_8 => ?_) (fun c_8 => ?_)
          · refine lv_aload hx hb dX1_want_59 (lv_at hl 0 rfl) ?_
            refine va_getN (D := D) (ci := 3) (v := .ref (q (4 * l_.toNatClampNeg + 1))) (C := RX0) (T := TX0) (N := 6) hx hb hts hinX0 hown hK hP (8 + 4 * l_.toNatClampNeg) (xL_obj h_1j) rfl 3 (by decide) (va_Nw.use rfl hN.2.2.1) (fun _ h9 => h9) rfl dX1_want_61 ?_
            refine lv_aload hx hb dX1_want_64 (lv_at hl 0 rfl) ?_
            refine va_getN (D := D) (ci := 3) (v := .int (N l_.toNatClampNeg 1 0)) (C := RX0) (T := TX0) (N := 6) hx hb hts hinX0 hown hK hP (8 + 4 * l_.toNatClampNeg) (xL_obj h_1j) rfl 1 (by decide) (va_Nw.use rfl hN.2.1) (fun _ h9 => h9) rfl dX1_want_66 ?_
            refine lv_iload_n hx hb dX1_want_69 rfl (lv_at hl 3 rfl) ?_
            refine va_iast hx hb hK hP hD hS (8 + (4 * l_.toNatClampNeg + (0 + 1))) 0 (xL_row h_1j 0 (by decide)) rfl (vp_in_lt (n := 8) (hwn _ h_1j) (Int32.not_le.mpr c_8) (by decide)) dX1_want_70 (fun H locs hP hD hS => ?_)
            rw [xL_setR h_1j 0 (by decide) ((N l_.toNatClampNeg 1 0).toNatClampNeg) b] at hP hD
            have hP : va_P D vwCl (xW kI kL a q S (nU N l_.toNatClampNeg 3 ((N l_.toNatClampNeg 1 0).toNatClampNeg) b) F B) H := hP
            have hD : va_D A (xW kI kL a q S (nU N l_.toNatClampNeg 3 ((N l_.toNatClampNeg 1 0).toNatClampNeg) b) F B) := hD
            refine lv_aload hx hb dX1_want_71 (lv_at hl 0 rfl) ?_
            refine va_getN (D := D) (ci := 3) (v := .ref (q (4 * l_.toNatClampNeg + 2))) (C := RX0) (T := TX0) (N := 6) hx hb hts hinX0 hown hK hP (8 + 4 * l_.toNatClampNeg) (xL_obj h_1j) rfl 4 (by decide) (va_Nw.use rfl hN.2.2.2.1) (fun _ h9 => h9) rfl dX1_want_73 ?_
            refine lv_aload hx hb dX1_want_76 (lv_at hl 0 rfl) ?_
            refine va_getN (D := D) (ci := 3) (v := .int ((nU N l_.toNatClampNeg 3 ((N l_.toNatClampNeg 1 0).toNatClampNeg) b) l_.toNatClampNeg 1 0)) (C := RX0) (T := TX0) (N := 6) hx hb hts hinX0 hown hK hP (8 + 4 * l_.toNatClampNeg) (xL_obj h_1j) rfl 1 (by decide) (va_Nw.use rfl hN.2.1) (fun _ h9 => h9) rfl dX1_want_78 ?_
            refine lv_iload_n hx hb dX1_want_81 rfl (lv_at hl 4 rfl) ?_
            refine va_iast hx hb hK hP hD hS (8 + (4 * l_.toNatClampNeg + (1 + 1))) 0 (xL_row h_1j 1 (by decide)) rfl (by rw [nU_o (by decide)]; exact (vp_in_lt (n := 8) (hwn _ h_1j) (Int32.not_le.mpr c_8) (by decide))) dX1_want_82 (fun H locs hP hD hS => ?_)
            rw [xL_setR h_1j 1 (by decide) (((nU N l_.toNatClampNeg 3 ((N l_.toNatClampNeg 1 0).toNatClampNeg) b) l_.toNatClampNeg 1 0).toNatClampNeg) k] at hP hD
            have hP : va_P D vwCl (xW kI kL a q S (nU (nU N l_.toNatClampNeg 3 ((N l_.toNatClampNeg 1 0).toNatClampNeg) b) l_.toNatClampNeg 4 (((nU N l_.toNatClampNeg 3 ((N l_.toNatClampNeg 1 0).toNatClampNeg) b) l_.toNatClampNeg 1 0).toNatClampNeg) k) F B) H := hP
            have hD : va_D A (xW kI kL a q S (nU (nU N l_.toNatClampNeg 3 ((N l_.toNatClampNeg 1 0).toNatClampNeg) b) l_.toNatClampNeg 4 (((nU N l_.toNatClampNeg 3 ((N l_.toNatClampNeg 1 0).toNatClampNeg) b) l_.toNatClampNeg 1 0).toNatClampNeg) k) F B) := hD
            refine lv_aload hx hb dX1_want_83 (lv_at hl 0 rfl) ?_
            refine lv_dup hx hb dX1_want_85 rfl ?_
            refine va_getN (D := D) (ci := 3) (v := .int ((nU (nU N l_.toNatClampNeg 3 ((N l_.toNatClampNeg 1 0).toNatClampNeg) b) l_.toNatClampNeg 4 (((nU N l_.toNatClampNeg 3 ((N l_.toNatClampNeg 1 0).toNatClampNeg) b) l_.toNatClampNeg 1 0).toNatClampNeg) k) l_.toNatClampNeg 1 0)) (C := RX0) (T := TX0) (N := 6) hx hb hts hinX0 hown hK hP (8 + 4 * l_.toNatClampNeg) (xL_obj h_1j) rfl 1 (by decide) (va_Nw.use rfl hN.2.1) (fun _ h9 => h9) rfl dX1_want_86 ?_
            refine lv_iconst (v := 1) hx hb dX1_want_89 (by decide) ?_
            refine lv_iadd hx hb dX1_want_90 ?_
            refine va_putN (D := D) (ci := 3) (v := .int (((nU (nU N l_.toNatClampNeg 3 ((N l_.toNatClampNeg 1 0).toNatClampNeg) b) l_.toNatClampNeg 4 (((nU N l_.toNatClampNeg 3 ((N l_.toNatClampNeg 1 0).toNatClampNeg) b) l_.toNatClampNeg 1 0).toNatClampNeg) k) l_.toNatClampNeg 1 0) + 1)) (ty := .int) (C := RX0) (T := TX0) (N := 6) hx hb hts hinX0 tyX0 tyX0_ok nmX0 hown hK hP hD hS (8 + 4 * l_.toNatClampNeg) (xL_obj h_1j) rfl 1 (by decide) (va_Nw.use rfl hN.2.1) (fun _ h9 => h9) rfl (by decide +kernel) rfl rfl (Nat.le_of_ble_eq_true rfl) dX1_want_91 (fun H locs hP hD hS => ?_)
            rw [xL_setF h_1j 1 (by decide) (((nU (nU N l_.toNatClampNeg 3 ((N l_.toNatClampNeg 1 0).toNatClampNeg) b) l_.toNatClampNeg 4 (((nU N l_.toNatClampNeg 3 ((N l_.toNatClampNeg 1 0).toNatClampNeg) b) l_.toNatClampNeg 1 0).toNatClampNeg) k) l_.toNatClampNeg 1 0) + 1)] at hP hD
            have hP : va_P D vwCl (xW kI kL a q S (nU (nU (nU N l_.toNatClampNeg 3 ((N l_.toNatClampNeg 1 0).toNatClampNeg) b) l_.toNatClampNeg 4 (((nU N l_.toNatClampNeg 3 ((N l_.toNatClampNeg 1 0).toNatClampNeg) b) l_.toNatClampNeg 1 0).toNatClampNeg) k) l_.toNatClampNeg 1 0 (((nU (nU N l_.toNatClampNeg 3 ((N l_.toNatClampNeg 1 0).toNatClampNeg) b) l_.toNatClampNeg 4 (((nU N l_.toNatClampNeg 3 ((N l_.toNatClampNeg 1 0).toNatClampNeg) b) l_.toNatClampNeg 1 0).toNatClampNeg) k) l_.toNatClampNeg 1 0) + 1)) F B) H := hP
            have hD : va_D A (xW kI kL a q S (nU (nU (nU N l_.toNatClampNeg 3 ((N l_.toNatClampNeg 1 0).toNatClampNeg) b) l_.toNatClampNeg 4 (((nU N l_.toNatClampNeg 3 ((N l_.toNatClampNeg 1 0).toNatClampNeg) b) l_.toNatClampNeg 1 0).toNatClampNeg) k) l_.toNatClampNeg 1 0 (((nU (nU N l_.toNatClampNeg 3 ((N l_.toNatClampNeg 1 0).toNatClampNeg) b) l_.toNatClampNeg 4 (((nU N l_.toNatClampNeg 3 ((N l_.toNatClampNeg 1 0).toNatClampNeg) b) l_.toNatClampNeg 1 0).toNatClampNeg) k) l_.toNatClampNeg 1 0) + 1)) F B) := hD
            refine lv_aload hx hb dX1_want_94 (lv_at hl 0 rfl) ?_
            refine va_getN (D := D) (ci := 3) (v := .int ((nU (nU (nU N l_.toNatClampNeg 3 ((N l_.toNatClampNeg 1 0).toNatClampNeg) b) l_.toNatClampNeg 4 (((nU N l_.toNatClampNeg 3 ((N l_.toNatClampNeg 1 0).toNatClampNeg) b) l_.toNatClampNeg 1 0).toNatClampNeg) k) l_.toNatClampNeg 1 0 (((nU (nU N l_.toNatClampNeg 3 ((N l_.toNatClampNeg 1 0).toNatClampNeg) b) l_.toNatClampNeg 4 (((nU N l_.toNatClampNeg 3 ((N l_.toNatClampNeg 1 0).toNatClampNeg) b) l_.toNatClampNeg 1 0).toNatClampNeg) k) l_.toNatClampNeg 1 0) + 1)) l_.toNatClampNeg 1 0)) (C := RX0) (T := TX0) (N := 6) hx hb hts hinX0 hown hK hP (8 + 4 * l_.toNatClampNeg) (xL_obj h_1j) rfl 1 (by decide) (va_Nw.use rfl hN.2.1) (fun _ h9 => h9) rfl dX1_want_96 ?_
            exact W.iret (v := ((nU (nU (nU N l_.toNatClampNeg 3 ((N l_.toNatClampNeg 1 0).toNatClampNeg) b) l_.toNatClampNeg 4 (((nU N l_.toNatClampNeg 3 ((N l_.toNatClampNeg 1 0).toNatClampNeg) b) l_.toNatClampNeg 1 0).toNatClampNeg) k) l_.toNatClampNeg 1 0 (((nU (nU N l_.toNatClampNeg 3 ((N l_.toNatClampNeg 1 0).toNatClampNeg) b) l_.toNatClampNeg 4 (((nU N l_.toNatClampNeg 3 ((N l_.toNatClampNeg 1 0).toNatClampNeg) b) l_.toNatClampNeg 1 0).toNatClampNeg) k) l_.toNatClampNeg 1 0) + 1)) l_.toNatClampNeg 1 0)) hx hb hr (fun t9 ht hW => ⟨⟨((nU (nU (nU N l_.toNatClampNeg 3 ((N l_.toNatClampNeg 1 0).toNatClampNeg) b) l_.toNatClampNeg 4 (((nU N l_.toNatClampNeg 3 ((N l_.toNatClampNeg 1 0).toNatClampNeg) b) l_.toNatClampNeg 1 0).toNatClampNeg) k) l_.toNatClampNeg 1 0 (((nU (nU N l_.toNatClampNeg 3 ((N l_.toNatClampNeg 1 0).toNatClampNeg) b) l_.toNatClampNeg 4 (((nU N l_.toNatClampNeg 3 ((N l_.toNatClampNeg 1 0).toNatClampNeg) b) l_.toNatClampNeg 1 0).toNatClampNeg) k) l_.toNatClampNeg 1 0) + 1)) l_.toNatClampNeg 1 0), (S, (nU (nU (nU N l_.toNatClampNeg 3 ((N l_.toNatClampNeg 1 0).toNatClampNeg) b) l_.toNatClampNeg 4 (((nU N l_.toNatClampNeg 3 ((N l_.toNatClampNeg 1 0).toNatClampNeg) b) l_.toNatClampNeg 1 0).toNatClampNeg) k) l_.toNatClampNeg 1 0 (((nU (nU N l_.toNatClampNeg 3 ((N l_.toNatClampNeg 1 0).toNatClampNeg) b) l_.toNatClampNeg 4 (((nU N l_.toNatClampNeg 3 ((N l_.toNatClampNeg 1 0).toNatClampNeg) b) l_.toNatClampNeg 1 0).toNatClampNeg) k) l_.toNatClampNeg 1 0) + 1))), rfl, ⟨by simp only [xs_want, cif_t h_1, cif_t h_3, cif_t h_5, cif_t c_7, cif_t c_8, nU_s, nU_o (k := 3) (k' := 1) (by decide), nU_o (k := 4) (k' := 1) (by decide)], by simp only [xs_want, cif_t h_1, cif_t h_3, cif_t h_5, cif_t c_7, cif_t c_8, nU_s, nU_o (k := 3) (k' := 1) (by decide), nU_o (k := 4) (k' := 1) (by decide)]⟩, by rw [ht]; exact hP, va_K.moved hW.alike hK, by rw [hAe]; exact hD⟩, hS.F ht⟩) hS.2.2 dX1_want_99
          · refine lv_bipush (v := -4) hx hb dX1_want_56 (by decide) ?_
            exact W.iret (v := (-4)) hx hb hr (fun t9 ht hW => ⟨⟨(-4), (S, N), rfl, ⟨by simp only [xs_want, cif_t h_1, cif_t h_3, cif_t h_5, cif_t c_7, cif_f c_8, nU_s, nU_o (k := 3) (k' := 1) (by decide), nU_o (k := 4) (k' := 1) (by decide)], by simp only [xs_want, cif_t h_1, cif_t h_3, cif_t h_5, cif_t c_7, cif_f c_8, nU_s, nU_o (k := 3) (k' := 1) (by decide), nU_o (k := 4) (k' := 1) (by decide)]⟩, by rw [ht]; exact hP, va_K.moved hW.alike hK, by rw [hAe]; exact hD⟩, hS.F ht⟩) hS.2.2 dX1_want_58
        · refine lv_bipush (v := -3) hx hb dX1_want_43 (by decide) ?_
          exact W.iret (v := (-3)) hx hb hr (fun t9 ht hW => ⟨⟨(-3), (S, N), rfl, ⟨by simp only [xs_want, cif_t h_1, cif_t h_3, cif_t h_5, cif_f c_7, nU_s, nU_o (k := 3) (k' := 1) (by decide), nU_o (k := 4) (k' := 1) (by decide)], by simp only [xs_want, cif_t h_1, cif_t h_3, cif_t h_5, cif_f c_7, nU_s, nU_o (k := 3) (k' := 1) (by decide), nU_o (k := 4) (k' := 1) (by decide)]⟩, by rw [ht]; exact hP, va_K.moved hW.alike hK, by rw [hAe]; exact hD⟩, hS.F ht⟩) hS.2.2 dX1_want_45
      · refine lv_if_ne (tgt := 35) hx hb dX1_want_29 (by decide) (fun c_9 => absurd c_9 (by decide)) (fun c_9 => ?_)
        refine lv_bipush (v := -2) hx hb dX1_want_32 (by decide) ?_
        exact W.iret (v := (-2)) hx hb hr (fun t9 ht hW => ⟨⟨(-2), (S, N), rfl, ⟨by simp only [xs_want, cif_t h_1, cif_t h_3, cif_f h_5, nU_s, nU_o (k := 3) (k' := 1) (by decide), nU_o (k := 4) (k' := 1) (by decide)], by simp only [xs_want, cif_t h_1, cif_t h_3, cif_f h_5, nU_s, nU_o (k := 3) (k' := 1) (by decide), nU_o (k := 4) (k' := 1) (by decide)]⟩, by rw [ht]; exact hP, va_K.moved hW.alike hK, by rw [hAe]; exact hD⟩, hS.F ht⟩) hS.2.2 dX1_want_34
    · refine lv_if_ne (tgt := 22) hx hb dX1_want_17 (by decide) (fun c_10 => absurd c_10 (by decide)) (fun c_10 => ?_)
      refine lv_iconst (v := -1) hx hb dX1_want_20 (by decide) ?_
      exact W.iret (v := (-1)) hx hb hr (fun t9 ht hW => ⟨⟨(-1), (S, N), rfl, ⟨by simp only [xs_want, cif_t h_1, cif_f h_3, nU_s, nU_o (k := 3) (k' := 1) (by decide), nU_o (k := 4) (k' := 1) (by decide)], by simp only [xs_want, cif_t h_1, cif_f h_3, nU_s, nU_o (k := 3) (k' := 1) (by decide), nU_o (k := 4) (k' := 1) (by decide)]⟩, by rw [ht]; exact hP, va_K.moved hW.alike hK, by rw [hAe]; exact hD⟩, hS.F ht⟩) hS.2.2 dX1_want_21

set_option maxHeartbeats 4000000 in
set_option maxRecDepth 100000 in
theorem c_X1_leave (l : Launch) (D : va_G) (kI kJ kL : ClassId) (a q : Nat → Nat) (S : Nat → Nat → Int32) (N : Nat → Nat → Nat → Int32) (F : Nat → Option Nat) (B : Nat) (sz : Nat) (l_ : Int32) (hb7 : S 7 0 = nI B) (hB : B ≤ 8) (hF : ∀ j, j < B → F j = some (q (4 * j))) (hn : (S 6 0).toInt ≤ 110) (hww : ∀ j, j < B → ∃ n : Nat, n ≤ 8 ∧ N j 1 0 = nI n) (hbb : ∀ j w, j < B → nI w < N j 1 0 → w < 8 → vp_in (N j 3 w) 110) : Met l yX1_leave wsX1_leave ({ frames := 3, cells := 0, slots := 0, locals := 67 }) (q_wP D (xTY kI kJ kL) (xW kI kL a q S N F B) sz [.ref (a 0), .int l_]) (va_Qi (fun r (u : (Nat → Nat → Int32) × (Nat → Nat → Nat → Int32)) => r = (xs_leave S N l_).1 ∧ u = ((xs_leave S N l_).2.1, (xs_leave S N l_).2.2)) (q_wB D (xTY kI kJ kL) (xW kI kL a q S N F B) sz (fun u : (Nat → Nat → Int32) × (Nat → Nat → Nat → Int32) => xW kI kL a q u.1 u.2 F B)) (va_A (xW kI kL a q S N F B) sz)) 0 0 (va_A (xW kI kL a q S N F B) sz) := by
  refine Met.ofW (cc := cX1_leave) (maxL := 5) (ret := (some .int)) (by decide) rfl ?_
  intro p e s m args below meth c s₁ Bd hml hv
  obtain ⟨rfl, hsz, hP, hK, hD0, hN⟩ := hv
  have hx := Bd.exec
  have hb := Bd.bytes
  have hr := Bd.returns
  have hts := atoms_spec (ws := wsX1_leave) Bd.pre
  have hown : s.vm.findClass RX1 = some m.cls := findClass_of_methodNamed Bd.named
  have hlocks := Bd.notSynchronized
  subst hsz
  have hD := hD0.self (sz := s.heap.size)
  generalize hAe : va_A (xW kI kL a q S N F B) s.heap.size = A at hD ⊢
  have hA : ∀ q : Nat, s.heap.size ≤ q → A q := fun q h => by rw [← hAe]; exact Or.inr h
  have hS : va_S A s.heap s.heap [] := va_S.rf
  have hl := lv_entry ([.ref (a 0), .int l_]) (n := 5) (Nat.le_of_ble_eq_true rfl)
  rw [lg_entry_eq]
  generalize (lg_sl ([.ref (a 0), .int l_]) ++ List.replicate (5 - (lg_sl ([.ref (a 0), .int l_])).length) Slot.unset).toArray = ls at hl ⊢
  have hl : lv_has ls 5 [(0, .ref (a 0)), (1, .int l_)] := hl
  have hinX0 : ∀ w ∈ u_ws RX0 TX0 6, w ∈ wsX1_leave := by decide +kernel
  have hinX1 : ∀ w ∈ u_ws RX1 TX1 9, w ∈ wsX1_leave := by decide +kernel
  refine lv_aload_n hx hb dX1_leave_0 rfl (lv_at hl 0 rfl) ?_
  refine lv_iload_n hx hb dX1_leave_1 rfl (lv_at hl 1 rfl) ?_
  refine va_csq (W.runV (As := [.int l_]) (rest := []) ⟨hx, hb, hml, hown, hts⟩ (c_X1_loanOf l D kI kJ kL a q S N F B l_ hb7 hB hF) (cwV 1 hts gX1_leave_X1_loanOf rfl rfl rfl (by decide +kernel) ⟨Nat.le_of_ble_eq_true rfl, Nat.le_of_ble_eq_true rfl⟩) (q_rV (w2 := []) hK hN (by rw [List.append_nil]; exact hP) (va_recv hK hP (ci := 4) (q0 := 0) rfl rfl)) rfl rfl hl.1 rfl (lv_room (Nat.le_of_ble_eq_true rfl)) dX1_leave_2 ⟨Nat.le_of_ble_eq_true rfl, Nat.le_of_ble_eq_true rfl⟩) (fun r_2 h_1 => ?_)
  rcases h_1 with ⟨rfl, h_1⟩ | ⟨rfl, h_1, h_1j⟩
  · refine lv_astore_nN (lv' := [(2, .null), (0, .ref (a 0)), (1, .int l_)]) hx hb dX1_leave_5 rfl hl (by decide) rfl (fun ls hl => ?_)
    refine lv_aload_nN hx hb dX1_leave_6 rfl (lv_at hl 0 rfl) ?_
    refine lv_ifnonnullN hx hb dX1_leave_7 ?_
    refine lv_iconst (v := -1) hx hb dX1_leave_10 (by decide) ?_
    exact W.iret (v := (-1)) hx hb hr (fun t9 ht hW => ⟨⟨(-1), (S, N), rfl, ⟨by simp only [xs_leave, cif_f h_1], by simp only [xs_leave, cif_f h_1]⟩, by rw [ht]; exact hP, va_K.moved hW.alike hK, by rw [hAe]; exact hD⟩, hS.F ht⟩) hS.2.2 dX1_leave_11
  · refine lv_astore_n (lv' := [(2, .ref (q (4 * l_.toNatClampNeg))), (0, .ref (a 0)), (1, .int l_)]) hx hb dX1_leave_5 rfl hl (by decide) rfl (fun ls hl => ?_)
    refine lv_aload_n hx hb dX1_leave_6 rfl (lv_at hl 0 rfl) ?_
    refine lv_ifnonnull (tgt := 12) hx hb dX1_leave_7 (by decide) ?_
    refine lv_aload_n hx hb dX1_leave_12 rfl (lv_at hl 0 rfl) ?_
    refine va_getN (D := D) (ci := 3) (v := .int (N l_.toNatClampNeg 0 0)) (C := RX0) (T := TX0) (N := 6) hx hb hts hinX0 hown hK hP (8 + 4 * l_.toNatClampNeg) (xL_obj h_1j) rfl 0 (by decide) (va_Nw.use rfl hN.1) (fun _ h9 => h9) rfl dX1_leave_13 ?_
    refine lv_if_eq (tgt := 22) hx hb dX1_leave_16 (by decide) (fun c_3 => ?_) (fun c_3 => ?_)
    · obtain ⟨n, hn8, hW⟩ := hww _ h_1j
      have hWc : (N l_.toNatClampNeg 1 0).toNatClampNeg = n := by rw [hW]; exact nI_clamp (by omega)
      refine lv_iconst (v := 0) hx hb dX1_leave_22 (by decide) ?_
      refine lv_istore_n (lv' := [(3, .int 0), (2, .ref (q (4 * l_.toNatClampNeg))), (0, .ref (a 0)), (1, .int l_)]) hx hb dX1_leave_23 rfl hl (by decide) rfl (fun ls hl => ?_)
      have loop24 : ∀ (n24 : Nat) (i : Nat) (Sx : Nat → Nat → Int32) (Nx : Nat → Nat → Nat → Int32), (n + 1 ≤ i + n24) → (i ≤ n) → (xlv l_.toNatClampNeg i (n - i) Sx Nx = xlv l_.toNatClampNeg 0 n S N) → (Nx l_.toNatClampNeg 1 0 = nI n) → (Nx l_.toNatClampNeg 3 = N l_.toNatClampNeg 3) → (Sx 6 = S 6) → ∀ (H : Heap) (locs : List Loc), va_P D vwCl (xW kI kL a q Sx Nx F B) H → va_D A (xW kI kL a q Sx Nx F B) → va_S A s.heap H locs → ∀ (ls : Array Slot), lv_has ls 5 [(0, .ref (a 0)), (1, .int l_), (2, .ref (q (4 * l_.toNatClampNeg))), (3, .int (nI i))] → W p l e ({ frames := 3, cells := 0, slots := 0, locals := 67 }) s m ([.ref (a 0), .int l_] : List Value).toArray below meth c H locs 0 0 (MQ below (va_Qi (fun r (u : (Nat → Nat → Int32) × (Nat → Nat → Nat → Int32)) => r = (xs_leave S N l_).1 ∧ u = ((xs_leave S N l_).2.1, (xs_leave S N l_).2.2)) (q_wB D (xTY kI kJ kL) (xW kI kL a q S N F B) s.heap.size (fun u : (Nat → Nat → Int32) × (Nat → Nat → Nat → Int32) => xW kI kL a q u.1 u.2 F B)) A) ([.ref (a 0), .int l_] : List Value).toArray s 0 0 A) (F0 m 24 ls []) := by
        intro n24
        induction n24 with
        | zero =>
          intro i Sx Nx hf hi hv hW1 hW3 hS6
          exact absurd hf (by omega)
        | succ n24 ih24 =>
          intro i Sx Nx hf hi hv hW1 hW3 hS6 H locs hP hD hS ls hl
          refine lv_iload_n hx hb dX1_leave_24 rfl (lv_at hl 3 rfl) ?_
          refine lv_aload_n hx hb dX1_leave_25 rfl (lv_at hl 2 rfl) ?_
          refine va_getN (D := D) (ci := 3) (v := .int (Nx l_.toNatClampNeg 1 0)) (C := RX0) (T := TX0) (N := 6) hx hb hts hinX0 hown hK hP (8 + 4 * l_.toNatClampNeg) (xL_obj h_1j) rfl 1 (by decide) (va_Nw.use rfl hN.2.1) (fun _ h9 => h9) rfl dX1_leave_26 ?_
          refine lv_icmp_ge (tgt := 63) hx hb dX1_leave_29 (by decide) (fun c_4 => ?_) (fun c_4 => ?_)
          · rw [hW1] at c_4
            have hi2 : n ≤ i := (nI_leI (a := n) (b := i) (by omega) (by omega)).mp c_4
            rw [show n - i = 0 by omega, xlv] at hv
            refine lv_aload_n hx hb dX1_leave_63 rfl (lv_at hl 2 rfl) ?_
            refine lv_iconst (v := 2) hx hb dX1_leave_64 (by decide) ?_
            refine va_putN (D := D) (ci := 3) (v := .int 2) (ty := .int) (C := RX0) (T := TX0) (N := 6) hx hb hts hinX0 tyX0 tyX0_ok nmX0 hown hK hP hD hS (8 + 4 * l_.toNatClampNeg) (xL_obj h_1j) rfl 0 (by decide) (va_Nw.use rfl hN.1) (fun _ h9 => h9) rfl (by decide +kernel) rfl rfl (Nat.le_of_ble_eq_true rfl) dX1_leave_65 (fun H locs hP hD hS => ?_)
            rw [xL_setF h_1j 0 (by decide) 2] at hP hD
            have hP : va_P D vwCl (xW kI kL a q Sx (nU Nx l_.toNatClampNeg 0 0 2) F B) H := hP
            have hD : va_D A (xW kI kL a q Sx (nU Nx l_.toNatClampNeg 0 0 2) F B) := hD
            refine lv_iconst (v := 1) hx hb dX1_leave_68 (by decide) ?_
            exact W.iret (v := 1) hx hb hr (fun t9 ht hW => ⟨⟨1, (Sx, (nU Nx l_.toNatClampNeg 0 0 2)), rfl, (by rw [xs_leave, cif_t h_1, cif_t c_3, hWc, ← hv]; exact ⟨rfl, rfl⟩), by rw [ht]; exact hP, va_K.moved hW.alike hK, by rw [hAe]; exact hD⟩, hS.F ht⟩) hS.2.2 dX1_leave_69
          · rw [hW1] at c_4
            have hi2 : i < n := Nat.lt_of_not_le (fun h8 => c_4 ((nI_leI (a := n) (b := i) (by omega) (by omega)).mpr h8))
            have hin : vp_in (nI i) 8 := vp_in_nI (by omega) (by omega)
            have hcl : (nI i).toNatClampNeg = i := nI_clamp (by omega)
            have hbx : vp_in (Nx l_.toNatClampNeg 3 (nI i).toNatClampNeg) 110 := by
              rw [hW3, hcl]
              exact hbb _ i h_1j (by rw [hW]; exact (nI_ltI (by omega) (by omega)).mpr hi2) (by omega)
            have hnx : (Sx 6 0).toInt ≤ 110 := by rw [hS6]; exact hn
            have hxk := xlw_k Sx Nx l_.toNatClampNeg (nI i)
            rw [show n - i = (n - (i + 1)) + 1 by omega, xlv] at hv
            refine lv_aload_n hx hb dX1_leave_32 rfl (lv_at hl 0 rfl) ?_
            refine lv_aload_n hx hb dX1_leave_33 rfl (lv_at hl 2 rfl) ?_
            refine lv_iload_n hx hb dX1_leave_34 rfl (lv_at hl 3 rfl) ?_
            refine qw_i (w2 := []) (va_runV (As := [.ref (q (4 * l_.toNatClampNeg)), .int (nI i)]) (rest := []) ⟨hx, hb, hml, hown, hts⟩ (c_X1_loadWant l D kI kJ kL a q Sx Nx F B H.size l_.toNatClampNeg (nI i) h_1j hin hbx hnx) (cwV 2 hts gX1_leave_X1_loadWant rfl rfl rfl (by decide +kernel) ⟨Nat.le_of_ble_eq_true rfl, Nat.le_of_ble_eq_true rfl⟩) (q_wV (w2 := []) hK hN (by rw [List.append_nil]; exact hP) (by rw [List.append_nil]; exact hD) (va_recv hK hP (ci := 4) (q0 := 0) rfl rfl)) rfl rfl hl.1 rfl (lv_room (Nat.le_of_ble_eq_true rfl)) dX1_leave_35 ⟨Nat.le_of_ble_eq_true rfl, Nat.le_of_ble_eq_true rfl⟩) (by rw [List.append_nil]; exact hP) (by rw [List.append_nil]; exact hD) hS hA (fun r_6 u_7 H locs h_5 hP hD hS => ?_)
            rw [List.append_nil] at hP hD
            obtain ⟨rfl, rfl⟩ := h_5
            have hP : va_P D vwCl (xW kI kL a q ((xlw Sx Nx l_.toNatClampNeg (nI i)).2.1) ((xlw Sx Nx l_.toNatClampNeg (nI i)).2.2) F B) H := hP
            have hD : va_D A (xW kI kL a q ((xlw Sx Nx l_.toNatClampNeg (nI i)).2.1) ((xlw Sx Nx l_.toNatClampNeg (nI i)).2.2) F B) := hD
            refine lv_istore (lv' := [(4, .int ((xlw Sx Nx l_.toNatClampNeg (nI i)).1)), (0, .ref (a 0)), (1, .int l_), (2, .ref (q (4 * l_.toNatClampNeg))), (3, .int (nI i))]) hx hb dX1_leave_38 hl (by decide) rfl (fun ls hl => ?_)
            refine lv_iload hx hb dX1_leave_40 (lv_at hl 0 rfl) ?_
            refine lv_if_eq (tgt := 57) hx hb dX1_leave_42 (by decide) (fun c_8 => ?_) (fun c_8 => ?_)
            · rw [cif_t c_8] at hv
              obtain ⟨x_9, ex_9⟩ : ∃ y : Int32, y = (nI i) + (1) := ⟨_, rfl⟩
              refine lv_iinc (v := x_9) (lv' := [(3, .int x_9), (4, .int ((xlw Sx Nx l_.toNatClampNeg (nI i)).1)), (0, .ref (a 0)), (1, .int l_), (2, .ref (q (4 * l_.toNatClampNeg)))]) hx hb dX1_leave_57 hl (k := 4) rfl (by rw [ex_9]; rfl) (by decide) rfl (fun ls hl => ?_)
              refine lv_goto (tgt := 24) hx hb dX1_leave_60 (by decide) ?_
              rw [show x_9 = nI (i + 1) from (ex_9).trans (nI_1 i)] at hl
              exact ih24 (i + 1) ((xlw Sx Nx l_.toNatClampNeg (nI i)).2.1) ((xlw Sx Nx l_.toNatClampNeg (nI i)).2.2) (by omega) (by omega) hv (by rw [hxk.2.2.1]; exact hW1) (by rw [hxk.2.2.2]; exact hW3) (by rw [hxk.2.1]; exact hS6) H locs hP hD hS ls (lv_sub hl [2, 3, 4, 0] rfl)
            · rw [cif_f c_8] at hv
              refine lv_aload_n hx hb dX1_leave_45 rfl (lv_at hl 3 rfl) ?_
              refine lv_iload_n hx hb dX1_leave_46 rfl (lv_at hl 4 rfl) ?_
              refine qw_v (w2 := []) (va_runVN (As := [.int (nI i)]) (rest := []) ⟨hx, hb, hml, hown, hts⟩ (c_X0_stick l D kI kJ kL a q ((xlw Sx Nx l_.toNatClampNeg (nI i)).2.1) ((xlw Sx Nx l_.toNatClampNeg (nI i)).2.2) F B H.size l_.toNatClampNeg (nI i) h_1j) ⟨va_cnB 1 hts gX1_leave_X0_stick_n123 rfl rfl rfl hN.2.2.2.2.2.2.2.1 (hts (.initialized RX0) (by decide +kernel)) (by decide +kernel) ⟨Nat.le_of_ble_eq_true rfl, Nat.le_of_ble_eq_true rfl⟩, hts (.instanceMethod yX0_stick) (by decide +kernel), hts (.selects RX0 yX0_stick yX0_stick) (by decide +kernel)⟩ (q_wV (w2 := []) hK hN (by rw [List.append_nil]; exact hP) (by rw [List.append_nil]; exact hD) (va_recv hK hP (ci := 3) (q0 := 8 + 4 * l_.toNatClampNeg) rfl (xL_obj h_1j))) rfl rfl hl.1 rfl (lv_room (Nat.le_of_ble_eq_true rfl)) dX1_leave_47 ⟨Nat.le_of_ble_eq_true rfl, Nat.le_of_ble_eq_true rfl⟩) (by rw [List.append_nil]; exact hP) (by rw [List.append_nil]; exact hD) hS hA (fun u_12 H locs h_10 hP hD hS => ?_)
              rw [List.append_nil] at hP hD
              obtain rfl := h_10
              have hP : va_P D vwCl (xW kI kL a q (((xlw Sx Nx l_.toNatClampNeg (nI i)).2.1)) (nU (nU ((xlw Sx Nx l_.toNatClampNeg (nI i)).2.2) l_.toNatClampNeg 0 0 1) l_.toNatClampNeg 2 0 (nI i)) F B) H := hP
              have hD : va_D A (xW kI kL a q (((xlw Sx Nx l_.toNatClampNeg (nI i)).2.1)) (nU (nU ((xlw Sx Nx l_.toNatClampNeg (nI i)).2.2) l_.toNatClampNeg 0 0 1) l_.toNatClampNeg 2 0 (nI i)) F B) := hD
              refine lv_aload_n hx hb dX1_leave_50 rfl (lv_at hl 1 rfl) ?_
              refine lv_iload hx hb dX1_leave_51 (lv_at hl 0 rfl) ?_
              refine qw_i (w2 := []) (va_runV (As := [.int ((xlw Sx Nx l_.toNatClampNeg (nI i)).1)]) (rest := []) ⟨hx, hb, hml, hown, hts⟩ (c_X1_found l D kI kJ kL a q (((xlw Sx Nx l_.toNatClampNeg (nI i)).2.1)) (nU (nU ((xlw Sx Nx l_.toNatClampNeg (nI i)).2.2) l_.toNatClampNeg 0 0 1) l_.toNatClampNeg 2 0 (nI i)) F B H.size ((xlw Sx Nx l_.toNatClampNeg (nI i)).1) hxk.1) (cwV 1 hts gX1_leave_X1_found rfl rfl rfl (by decide +kernel) ⟨Nat.le_of_ble_eq_true rfl, Nat.le_of_ble_eq_true rfl⟩) (q_wV (w2 := []) hK hN (by rw [List.append_nil]; exact hP) (by rw [List.append_nil]; exact hD) (va_recv hK hP (ci := 4) (q0 := 0) rfl rfl)) rfl rfl hl.1 rfl (lv_room (Nat.le_of_ble_eq_true rfl)) dX1_leave_53 ⟨Nat.le_of_ble_eq_true rfl, Nat.le_of_ble_eq_true rfl⟩) (by rw [List.append_nil]; exact hP) (by rw [List.append_nil]; exact hD) hS hA (fun r_14 u_15 H locs h_13 hP hD hS => ?_)
              rw [List.append_nil] at hP hD
              obtain ⟨rfl, rfl⟩ := h_13
              have hP : va_P D vwCl (xW kI kL a q (xfd (((xlw Sx Nx l_.toNatClampNeg (nI i)).2.1)) ((xlw Sx Nx l_.toNatClampNeg (nI i)).1)) ((nU (nU ((xlw Sx Nx l_.toNatClampNeg (nI i)).2.2) l_.toNatClampNeg 0 0 1) l_.toNatClampNeg 2 0 (nI i))) F B) H := hP
              have hD : va_D A (xW kI kL a q (xfd (((xlw Sx Nx l_.toNatClampNeg (nI i)).2.1)) ((xlw Sx Nx l_.toNatClampNeg (nI i)).1)) ((nU (nU ((xlw Sx Nx l_.toNatClampNeg (nI i)).2.2) l_.toNatClampNeg 0 0 1) l_.toNatClampNeg 2 0 (nI i))) F B) := hD
              exact W.iret (v := (-30 - ((xlw Sx Nx l_.toNatClampNeg (nI i)).1))) hx hb hr (fun t9 ht hW => ⟨⟨(-30 - ((xlw Sx Nx l_.toNatClampNeg (nI i)).1)), ((xfd (((xlw Sx Nx l_.toNatClampNeg (nI i)).2.1)) ((xlw Sx Nx l_.toNatClampNeg (nI i)).1)), ((nU (nU ((xlw Sx Nx l_.toNatClampNeg (nI i)).2.2) l_.toNatClampNeg 0 0 1) l_.toNatClampNeg 2 0 (nI i)))), rfl, (by rw [xs_leave, cif_t h_1, cif_t c_3, hWc, ← hv]; exact ⟨rfl, rfl⟩), by rw [ht]; exact hP, va_K.moved hW.alike hK, by rw [hAe]; exact hD⟩, hS.F ht⟩) hS.2.2 dX1_leave_56
      exact loop24 (n + 1) 0 S N (by omega) (by omega) rfl hW rfl rfl s.heap [] hP hD hS ls (lv_sub hl [2, 3, 1, 0] rfl)
    · refine lv_bipush (v := -3) hx hb dX1_leave_19 (by decide) ?_
      exact W.iret (v := (-3)) hx hb hr (fun t9 ht hW => ⟨⟨(-3), (S, N), rfl, ⟨by simp only [xs_leave, cif_t h_1, cif_f c_3], by simp only [xs_leave, cif_t h_1, cif_f c_3]⟩, by rw [ht]; exact hP, va_K.moved hW.alike hK, by rw [hAe]; exact hD⟩, hS.F ht⟩) hS.2.2 dX1_leave_21

set_option maxHeartbeats 4000000 in
set_option maxRecDepth 100000 in
theorem c_X1_back (l : Launch) (D : va_G) (kI kJ kL : ClassId) (a q : Nat → Nat) (S : Nat → Nat → Int32) (N : Nat → Nat → Nat → Int32) (F : Nat → Option Nat) (B : Nat) (sz : Nat) (l_ : Int32) (hb7 : S 7 0 = nI B) (hB : B ≤ 8) (hF : ∀ j, j < B → F j = some (q (4 * j))) (hn : (S 6 0).toInt ≤ 110) (hww : ∀ j, j < B → ∃ n : Nat, n ≤ 8 ∧ N j 1 0 = nI n) (hbb : ∀ j w, j < B → nI w < N j 1 0 → w < 8 → vp_in (N j 3 w) 110) : Met l yX1_back wsX1_back ({ frames := 4, cells := 0, slots := 0, locals := 90 }) (q_wP D (xTY kI kJ kL) (xW kI kL a q S N F B) sz [.ref (a 0), .int l_]) (va_Qi (fun r (u : (Nat → Nat → Int32) × (Nat → Nat → Nat → Int32)) => r = (xs_back S N l_).1 ∧ u = ((xs_back S N l_).2.1, (xs_back S N l_).2.2)) (q_wB D (xTY kI kJ kL) (xW kI kL a q S N F B) sz (fun u : (Nat → Nat → Int32) × (Nat → Nat → Nat → Int32) => xW kI kL a q u.1 u.2 F B)) (va_A (xW kI kL a q S N F B) sz)) 0 0 (va_A (xW kI kL a q S N F B) sz) := by
  refine Met.ofW (cc := cX1_back) (maxL := 5) (ret := (some .int)) (by decide) rfl ?_
  intro p e s m args below meth c s₁ Bd hml hv
  obtain ⟨rfl, hsz, hP, hK, hD0, hN⟩ := hv
  have hx := Bd.exec
  have hb := Bd.bytes
  have hr := Bd.returns
  have hts := atoms_spec (ws := wsX1_back) Bd.pre
  have hown : s.vm.findClass RX1 = some m.cls := findClass_of_methodNamed Bd.named
  have hlocks := Bd.notSynchronized
  subst hsz
  have hD := hD0.self (sz := s.heap.size)
  generalize hAe : va_A (xW kI kL a q S N F B) s.heap.size = A at hD ⊢
  have hA : ∀ q : Nat, s.heap.size ≤ q → A q := fun q h => by rw [← hAe]; exact Or.inr h
  have hS : va_S A s.heap s.heap [] := va_S.rf
  have hl := lv_entry ([.ref (a 0), .int l_]) (n := 5) (Nat.le_of_ble_eq_true rfl)
  rw [lg_entry_eq]
  generalize (lg_sl ([.ref (a 0), .int l_]) ++ List.replicate (5 - (lg_sl ([.ref (a 0), .int l_])).length) Slot.unset).toArray = ls at hl ⊢
  have hl : lv_has ls 5 [(0, .ref (a 0)), (1, .int l_)] := hl
  have hinX0 : ∀ w ∈ u_ws RX0 TX0 6, w ∈ wsX1_back := by decide +kernel
  have hinX1 : ∀ w ∈ u_ws RX1 TX1 9, w ∈ wsX1_back := by decide +kernel
  refine lv_aload_n hx hb dX1_back_0 rfl (lv_at hl 0 rfl) ?_
  refine lv_iload_n hx hb dX1_back_1 rfl (lv_at hl 1 rfl) ?_
  refine va_csq (W.runV (As := [.int l_]) (rest := []) ⟨hx, hb, hml, hown, hts⟩ (c_X1_loanOf l D kI kJ kL a q S N F B l_ hb7 hB hF) (cwV 1 hts gX1_back_X1_loanOf rfl rfl rfl (by decide +kernel) ⟨Nat.le_of_ble_eq_true rfl, Nat.le_of_ble_eq_true rfl⟩) (q_rV (w2 := []) hK hN (by rw [List.append_nil]; exact hP) (va_recv hK hP (ci := 4) (q0 := 0) rfl rfl)) rfl rfl hl.1 rfl (lv_room (Nat.le_of_ble_eq_true rfl)) dX1_back_2 ⟨Nat.le_of_ble_eq_true rfl, Nat.le_of_ble_eq_true rfl⟩) (fun r_2 h_1 => ?_)
  rcases h_1 with ⟨rfl, h_1⟩ | ⟨rfl, h_1, h_1j⟩
  · refine lv_astore_nN (lv' := [(2, .null), (0, .ref (a 0)), (1, .int l_)]) hx hb dX1_back_5 rfl hl (by decide) rfl (fun ls hl => ?_)
    refine lv_aload_nN hx hb dX1_back_6 rfl (lv_at hl 0 rfl) ?_
    refine lv_ifnonnullN hx hb dX1_back_7 ?_
    refine lv_iconst (v := -1) hx hb dX1_back_10 (by decide) ?_
    exact W.iret (v := (-1)) hx hb hr (fun t9 ht hW => ⟨⟨(-1), (S, N), rfl, ⟨by simp only [xs_back, cif_f h_1], by simp only [xs_back, cif_f h_1]⟩, by rw [ht]; exact hP, va_K.moved hW.alike hK, by rw [hAe]; exact hD⟩, hS.F ht⟩) hS.2.2 dX1_back_11
  · refine lv_astore_n (lv' := [(2, .ref (q (4 * l_.toNatClampNeg))), (0, .ref (a 0)), (1, .int l_)]) hx hb dX1_back_5 rfl hl (by decide) rfl (fun ls hl => ?_)
    refine lv_aload_n hx hb dX1_back_6 rfl (lv_at hl 0 rfl) ?_
    refine lv_ifnonnull (tgt := 12) hx hb dX1_back_7 (by decide) ?_
    refine lv_aload_n hx hb dX1_back_12 rfl (lv_at hl 0 rfl) ?_
    refine va_getN (D := D) (ci := 3) (v := .int (N l_.toNatClampNeg 0 0)) (C := RX0) (T := TX0) (N := 6) hx hb hts hinX0 hown hK hP (8 + 4 * l_.toNatClampNeg) (xL_obj h_1j) rfl 0 (by decide) (va_Nw.use rfl hN.1) (fun _ h9 => h9) rfl dX1_back_13 ?_
    refine lv_iconst (v := 1) hx hb dX1_back_16 (by decide) ?_
    refine lv_icmp_eq (tgt := 31) hx hb dX1_back_17 (by decide) (fun c_3 => ?_) (fun c_3 => ?_)
    · obtain ⟨n, hn8, hW⟩ := hww _ h_1j
      have hWc : (N l_.toNatClampNeg 1 0).toNatClampNeg = n := by rw [hW]; exact nI_clamp (by omega)
      refine lv_iconst (v := 0) hx hb dX1_back_31 (by decide) ?_
      refine lv_istore_n (lv' := [(3, .int 0), (2, .ref (q (4 * l_.toNatClampNeg))), (0, .ref (a 0)), (1, .int l_)]) hx hb dX1_back_32 rfl hl (by decide) rfl (fun ls hl => ?_)
      refine lv_aload_n hx hb dX1_back_33 rfl (lv_at hl 1 rfl) ?_
      refine va_getN (D := D) (ci := 3) (v := .int (N l_.toNatClampNeg 1 0)) (C := RX0) (T := TX0) (N := 6) hx hb hts hinX0 hown hK hP (8 + 4 * l_.toNatClampNeg) (xL_obj h_1j) rfl 1 (by decide) (va_Nw.use rfl hN.2.1) (fun _ h9 => h9) rfl dX1_back_34 ?_
      refine lv_iconst (v := 1) hx hb dX1_back_37 (by decide) ?_
      refine lv_isub hx hb dX1_back_38 ?_
      refine lv_istore (lv' := [(4, .int ((N l_.toNatClampNeg 1 0) - 1)), (3, .int 0), (2, .ref (q (4 * l_.toNatClampNeg))), (0, .ref (a 0)), (1, .int l_)]) hx hb dX1_back_39 hl (by decide) rfl (fun ls hl => ?_)
      have loop41 : ∀ (n41 : Nat) (i : Nat) (x3 : Int32) (Sx : Nat → Nat → Int32) (Nx : Nat → Nat → Nat → Int32), (i + 1 ≤ n41) → (i ≤ n) → (xbk l_.toNatClampNeg i x3 Sx Nx = xbk l_.toNatClampNeg n 0 S N) → (Nx l_.toNatClampNeg 1 0 = nI n) → (Nx l_.toNatClampNeg 3 = N l_.toNatClampNeg 3) → (Sx 6 = S 6) → ∀ (H : Heap) (locs : List Loc), va_P D vwCl (xW kI kL a q Sx Nx F B) H → va_D A (xW kI kL a q Sx Nx F B) → va_S A s.heap H locs → ∀ (ls : Array Slot), lv_has ls 5 [(0, .ref (a 0)), (1, .int l_), (2, .ref (q (4 * l_.toNatClampNeg))), (3, .int x3), (4, .int (nI i - 1))] → W p l e ({ frames := 4, cells := 0, slots := 0, locals := 90 }) s m ([.ref (a 0), .int l_] : List Value).toArray below meth c H locs 0 0 (MQ below (va_Qi (fun r (u : (Nat → Nat → Int32) × (Nat → Nat → Nat → Int32)) => r = (xs_back S N l_).1 ∧ u = ((xs_back S N l_).2.1, (xs_back S N l_).2.2)) (q_wB D (xTY kI kJ kL) (xW kI kL a q S N F B) s.heap.size (fun u : (Nat → Nat → Int32) × (Nat → Nat → Nat → Int32) => xW kI kL a q u.1 u.2 F B)) A) ([.ref (a 0), .int l_] : List Value).toArray s 0 0 A) (F0 m 41 ls []) := by
        intro n41
        induction n41 with
        | zero =>
          intro i x3 Sx Nx hf hi hv hW1 hW3 hS6
          exact absurd hf (by omega)
        | succ n41 ih41 =>
          intro i x3 Sx Nx hf hi hv hW1 hW3 hS6 H locs hP hD hS ls hl
          refine lv_iload hx hb dX1_back_41 (lv_at hl 4 rfl) ?_
          refine lv_if_lt (tgt := 65) hx hb dX1_back_43 (by decide) (fun c_4 => ?_) (fun c_4 => ?_)
          · have hi2 : i = 0 := by
              rcases i with _ | k
              · rfl
              · rw [nI_pred] at c_4; exact absurd c_4 (nI_pos (by omega))
            rw [hi2, xbk] at hv
            refine lv_aload_n hx hb dX1_back_65 rfl (lv_at hl 2 rfl) ?_
            refine qw_v (w2 := []) (va_runVN (As := []) (rest := []) ⟨hx, hb, hml, hown, hts⟩ (c_X0_settle l D kI kJ kL a q Sx Nx F B H.size l_.toNatClampNeg h_1j) ⟨va_cnB 0 hts gX1_back_X0_settle_n131 rfl rfl rfl hN.2.2.2.2.2.2.2.2.1 (hts (.initialized RX0) (by decide +kernel)) (by decide +kernel) ⟨Nat.le_of_ble_eq_true rfl, Nat.le_of_ble_eq_true rfl⟩, hts (.instanceMethod yX0_settle) (by decide +kernel), hts (.selects RX0 yX0_settle yX0_settle) (by decide +kernel)⟩ (q_wV (w2 := []) hK hN (by rw [List.append_nil]; exact hP) (by rw [List.append_nil]; exact hD) (va_recv hK hP (ci := 3) (q0 := 8 + 4 * l_.toNatClampNeg) rfl (xL_obj h_1j))) rfl rfl hl.1 rfl (lv_room (Nat.le_of_ble_eq_true rfl)) dX1_back_66 ⟨Nat.le_of_ble_eq_true rfl, Nat.le_of_ble_eq_true rfl⟩) (by rw [List.append_nil]; exact hP) (by rw [List.append_nil]; exact hD) hS hA (fun u_7 H locs h_5 hP hD hS => ?_)
            rw [List.append_nil] at hP hD
            obtain rfl := h_5
            have hP : va_P D vwCl (xW kI kL a q Sx (xse Nx l_.toNatClampNeg 0 8) F B) H := hP
            have hD : va_D A (xW kI kL a q Sx (xse Nx l_.toNatClampNeg 0 8) F B) := hD
            refine lv_iload_n hx hb dX1_back_69 rfl (lv_at hl 3 rfl) ?_
            exact W.iret (v := x3) hx hb hr (fun t9 ht hW => ⟨⟨x3, (Sx, (xse Nx l_.toNatClampNeg 0 8)), rfl, (by rw [xs_back, cif_t h_1, cif_t c_3, hWc, ← hv]; exact ⟨rfl, rfl⟩), by rw [ht]; exact hP, va_K.moved hW.alike hK, by rw [hAe]; exact hD⟩, hS.F ht⟩) hS.2.2 dX1_back_70
          · obtain ⟨k, rfl⟩ : ∃ k, i = k + 1 := by
              rcases i with _ | k
              · exact absurd (by decide) c_4
              · exact ⟨k, rfl⟩
            rw [nI_pred] at hl
            have hin : vp_in (nI k) 8 := vp_in_nI (by omega) (by omega)
            have hcl : (nI k).toNatClampNeg = k := nI_clamp (by omega)
            have hbx : vp_in (Nx l_.toNatClampNeg 3 (nI k).toNatClampNeg) 110 := by
              rw [hW3, hcl]
              exact hbb _ k h_1j (by rw [hW]; exact (nI_ltI (by omega) (by omega)).mpr (by omega)) (by omega)
            have hnx : (Sx 6 0).toInt ≤ 110 := by rw [hS6]; exact hn
            have hxk := xuw_k Sx Nx l_.toNatClampNeg (nI k)
            rw [xbk] at hv
            refine lv_aload_n hx hb dX1_back_46 rfl (lv_at hl 0 rfl) ?_
            refine lv_aload_n hx hb dX1_back_47 rfl (lv_at hl 2 rfl) ?_
            refine lv_iload hx hb dX1_back_48 (lv_at hl 4 rfl) ?_
            refine qw_i (w2 := []) (va_runV (As := [.ref (q (4 * l_.toNatClampNeg)), .int (nI k)]) (rest := []) ⟨hx, hb, hml, hown, hts⟩ (c_X1_unloadWant l D kI kJ kL a q Sx Nx F B H.size l_.toNatClampNeg (nI k) h_1j hin hbx hnx) (cwV 2 hts gX1_back_X1_unloadWant rfl rfl rfl (by decide +kernel) ⟨Nat.le_of_ble_eq_true rfl, Nat.le_of_ble_eq_true rfl⟩) (q_wV (w2 := []) hK hN (by rw [List.append_nil]; exact hP) (by rw [List.append_nil]; exact hD) (va_recv hK hP (ci := 4) (q0 := 0) rfl rfl)) rfl rfl hl.1 rfl (lv_room (Nat.le_of_ble_eq_true rfl)) dX1_back_50 ⟨Nat.le_of_ble_eq_true rfl, Nat.le_of_ble_eq_true rfl⟩) (by rw [List.append_nil]; exact hP) (by rw [List.append_nil]; exact hD) hS hA (fun r_9 u_10 H locs h_8 hP hD hS => ?_)
            rw [List.append_nil] at hP hD
            obtain ⟨rfl, rfl⟩ := h_8
            have hP : va_P D vwCl (xW kI kL a q ((xuw Sx Nx l_.toNatClampNeg (nI k)).2.1) ((xuw Sx Nx l_.toNatClampNeg (nI k)).2.2) F B) H := hP
            have hD : va_D A (xW kI kL a q ((xuw Sx Nx l_.toNatClampNeg (nI k)).2.1) ((xuw Sx Nx l_.toNatClampNeg (nI k)).2.2) F B) := hD
            refine lv_if_eq (tgt := 59) hx hb dX1_back_53 (by decide) (fun c_11 => ?_) (fun c_11 => ?_)
            · rw [cif_t c_11] at hv
              obtain ⟨x_12, ex_12⟩ : ∃ y : Int32, y = (nI k) + (-1) := ⟨_, rfl⟩
              refine lv_iinc (v := x_12) (lv' := [(4, .int x_12), (0, .ref (a 0)), (1, .int l_), (2, .ref (q (4 * l_.toNatClampNeg))), (3, .int x3)]) hx hb dX1_back_59 hl (k := 4) rfl (by rw [ex_12]; rfl) (by decide) rfl (fun ls hl => ?_)
              refine lv_goto (tgt := 41) hx hb dX1_back_62 (by decide) ?_
              rw [show x_12 = nI k - 1 from (ex_12).trans (nI_m1 k)] at hl
              exact ih41 k x3 ((xuw Sx Nx l_.toNatClampNeg (nI k)).2.1) ((xuw Sx Nx l_.toNatClampNeg (nI k)).2.2) (by omega) (by omega) hv (by rw [hxk.2.1]; exact hW1) (by rw [hxk.2.2]; exact hW3) (by rw [hxk.1]; exact hS6) H locs hP hD hS ls (lv_sub hl [1, 2, 3, 4, 0] rfl)
            · rw [cif_f c_11] at hv
              obtain ⟨x_13, ex_13⟩ : ∃ y : Int32, y = x3 + (1) := ⟨_, rfl⟩
              refine lv_iinc (v := x_13) (lv' := [(3, .int x_13), (0, .ref (a 0)), (1, .int l_), (2, .ref (q (4 * l_.toNatClampNeg))), (4, .int (nI k))]) hx hb dX1_back_56 hl (k := 3) rfl (by rw [ex_13]; rfl) (by decide) rfl (fun ls hl => ?_)
              obtain ⟨x_14, ex_14⟩ : ∃ y : Int32, y = (nI k) + (-1) := ⟨_, rfl⟩
              refine lv_iinc (v := x_14) (lv' := [(4, .int x_14), (3, .int x_13), (0, .ref (a 0)), (1, .int l_), (2, .ref (q (4 * l_.toNatClampNeg)))]) hx hb dX1_back_59 hl (k := 4) rfl (by rw [ex_14]; rfl) (by decide) rfl (fun ls hl => ?_)
              refine lv_goto (tgt := 41) hx hb dX1_back_62 (by decide) ?_
              rw [show x_14 = nI k - 1 from (ex_14).trans (nI_m1 k)] at hl
              exact ih41 k x_13 ((xuw Sx Nx l_.toNatClampNeg (nI k)).2.1) ((xuw Sx Nx l_.toNatClampNeg (nI k)).2.2) (by omega) (by omega) (by rw [ex_13]; exact hv) (by rw [hxk.2.1]; exact hW1) (by rw [hxk.2.2]; exact hW3) (by rw [hxk.1]; exact hS6) H locs hP hD hS ls (lv_sub hl [2, 3, 4, 1, 0] rfl)
      rw [show ((N l_.toNatClampNeg 1 0) - 1) = nI n - 1 by rw [hW]] at hl
      exact loop41 (n + 1) n 0 S N (by omega) (by omega) rfl hW rfl rfl s.heap [] hP hD hS ls (lv_sub hl [3, 4, 2, 1, 0] rfl)
    · refine lv_aload_n hx hb dX1_back_20 rfl (lv_at hl 0 rfl) ?_
      refine va_getN (D := D) (ci := 3) (v := .int (N l_.toNatClampNeg 0 0)) (C := RX0) (T := TX0) (N := 6) hx hb hts hinX0 hown hK hP (8 + 4 * l_.toNatClampNeg) (xL_obj h_1j) rfl 0 (by decide) (va_Nw.use rfl hN.1) (fun _ h9 => h9) rfl dX1_back_21 ?_
      refine lv_iconst (v := 2) hx hb dX1_back_24 (by decide) ?_
      refine lv_icmp_eq (tgt := 31) hx hb dX1_back_25 (by decide) (fun c_15 => ?_) (fun c_15 => ?_)
      · obtain ⟨n, hn8, hW⟩ := hww _ h_1j
        have hWc : (N l_.toNatClampNeg 1 0).toNatClampNeg = n := by rw [hW]; exact nI_clamp (by omega)
        refine lv_iconst (v := 0) hx hb dX1_back_31 (by decide) ?_
        refine lv_istore_n (lv' := [(3, .int 0), (2, .ref (q (4 * l_.toNatClampNeg))), (0, .ref (a 0)), (1, .int l_)]) hx hb dX1_back_32 rfl hl (by decide) rfl (fun ls hl => ?_)
        refine lv_aload_n hx hb dX1_back_33 rfl (lv_at hl 1 rfl) ?_
        refine va_getN (D := D) (ci := 3) (v := .int (N l_.toNatClampNeg 1 0)) (C := RX0) (T := TX0) (N := 6) hx hb hts hinX0 hown hK hP (8 + 4 * l_.toNatClampNeg) (xL_obj h_1j) rfl 1 (by decide) (va_Nw.use rfl hN.2.1) (fun _ h9 => h9) rfl dX1_back_34 ?_
        refine lv_iconst (v := 1) hx hb dX1_back_37 (by decide) ?_
        refine lv_isub hx hb dX1_back_38 ?_
        refine lv_istore (lv' := [(4, .int ((N l_.toNatClampNeg 1 0) - 1)), (3, .int 0), (2, .ref (q (4 * l_.toNatClampNeg))), (0, .ref (a 0)), (1, .int l_)]) hx hb dX1_back_39 hl (by decide) rfl (fun ls hl => ?_)
        have loop41 : ∀ (n41 : Nat) (i : Nat) (x3 : Int32) (Sx : Nat → Nat → Int32) (Nx : Nat → Nat → Nat → Int32), (i + 1 ≤ n41) → (i ≤ n) → (xbk l_.toNatClampNeg i x3 Sx Nx = xbk l_.toNatClampNeg n 0 S N) → (Nx l_.toNatClampNeg 1 0 = nI n) → (Nx l_.toNatClampNeg 3 = N l_.toNatClampNeg 3) → (Sx 6 = S 6) → ∀ (H : Heap) (locs : List Loc), va_P D vwCl (xW kI kL a q Sx Nx F B) H → va_D A (xW kI kL a q Sx Nx F B) → va_S A s.heap H locs → ∀ (ls : Array Slot), lv_has ls 5 [(0, .ref (a 0)), (1, .int l_), (2, .ref (q (4 * l_.toNatClampNeg))), (3, .int x3), (4, .int (nI i - 1))] → W p l e ({ frames := 4, cells := 0, slots := 0, locals := 90 }) s m ([.ref (a 0), .int l_] : List Value).toArray below meth c H locs 0 0 (MQ below (va_Qi (fun r (u : (Nat → Nat → Int32) × (Nat → Nat → Nat → Int32)) => r = (xs_back S N l_).1 ∧ u = ((xs_back S N l_).2.1, (xs_back S N l_).2.2)) (q_wB D (xTY kI kJ kL) (xW kI kL a q S N F B) s.heap.size (fun u : (Nat → Nat → Int32) × (Nat → Nat → Nat → Int32) => xW kI kL a q u.1 u.2 F B)) A) ([.ref (a 0), .int l_] : List Value).toArray s 0 0 A) (F0 m 41 ls []) := by
          intro n41
          induction n41 with
          | zero =>
            intro i x3 Sx Nx hf hi hv hW1 hW3 hS6
            exact absurd hf (by omega)
          | succ n41 ih41 =>
            intro i x3 Sx Nx hf hi hv hW1 hW3 hS6 H locs hP hD hS ls hl
            refine lv_iload hx hb dX1_back_41 (lv_at hl 4 rfl) ?_
            refine lv_if_lt (tgt := 65) hx hb dX1_back_43 (by decide) (fun c_16 => ?_) (fun c_16 => ?_)
            · have hi2 : i = 0 := by
                rcases i with _ | k
                · rfl
                · rw [nI_pred] at c_16; exact absurd c_16 (nI_pos (by omega))
              rw [hi2, xbk] at hv
              refine lv_aload_n hx hb dX1_back_65 rfl (lv_at hl 2 rfl) ?_
              refine qw_v (w2 := []) (va_runVN (As := []) (rest := []) ⟨hx, hb, hml, hown, hts⟩ (c_X0_settle l D kI kJ kL a q Sx Nx F B H.size l_.toNatClampNeg h_1j) ⟨va_cnB 0 hts gX1_back_X0_settle_n131 rfl rfl rfl hN.2.2.2.2.2.2.2.2.1 (hts (.initialized RX0) (by decide +kernel)) (by decide +kernel) ⟨Nat.le_of_ble_eq_true rfl, Nat.le_of_ble_eq_true rfl⟩, hts (.instanceMethod yX0_settle) (by decide +kernel), hts (.selects RX0 yX0_settle yX0_settle) (by decide +kernel)⟩ (q_wV (w2 := []) hK hN (by rw [List.append_nil]; exact hP) (by rw [List.append_nil]; exact hD) (va_recv hK hP (ci := 3) (q0 := 8 + 4 * l_.toNatClampNeg) rfl (xL_obj h_1j))) rfl rfl hl.1 rfl (lv_room (Nat.le_of_ble_eq_true rfl)) dX1_back_66 ⟨Nat.le_of_ble_eq_true rfl, Nat.le_of_ble_eq_true rfl⟩) (by rw [List.append_nil]; exact hP) (by rw [List.append_nil]; exact hD) hS hA (fun u_19 H locs h_17 hP hD hS => ?_)
              rw [List.append_nil] at hP hD
              obtain rfl := h_17
              have hP : va_P D vwCl (xW kI kL a q Sx (xse Nx l_.toNatClampNeg 0 8) F B) H := hP
              have hD : va_D A (xW kI kL a q Sx (xse Nx l_.toNatClampNeg 0 8) F B) := hD
              refine lv_iload_n hx hb dX1_back_69 rfl (lv_at hl 3 rfl) ?_
              exact W.iret (v := x3) hx hb hr (fun t9 ht hW => ⟨⟨x3, (Sx, (xse Nx l_.toNatClampNeg 0 8)), rfl, (by rw [xs_back, cif_t h_1, cif_f c_3, cif_t c_15, hWc, ← hv]; exact ⟨rfl, rfl⟩), by rw [ht]; exact hP, va_K.moved hW.alike hK, by rw [hAe]; exact hD⟩, hS.F ht⟩) hS.2.2 dX1_back_70
            · obtain ⟨k, rfl⟩ : ∃ k, i = k + 1 := by
                rcases i with _ | k
                · exact absurd (by decide) c_16
                · exact ⟨k, rfl⟩
              rw [nI_pred] at hl
              have hin : vp_in (nI k) 8 := vp_in_nI (by omega) (by omega)
              have hcl : (nI k).toNatClampNeg = k := nI_clamp (by omega)
              have hbx : vp_in (Nx l_.toNatClampNeg 3 (nI k).toNatClampNeg) 110 := by
                rw [hW3, hcl]
                exact hbb _ k h_1j (by rw [hW]; exact (nI_ltI (by omega) (by omega)).mpr (by omega)) (by omega)
              have hnx : (Sx 6 0).toInt ≤ 110 := by rw [hS6]; exact hn
              have hxk := xuw_k Sx Nx l_.toNatClampNeg (nI k)
              rw [xbk] at hv
              refine lv_aload_n hx hb dX1_back_46 rfl (lv_at hl 0 rfl) ?_
              refine lv_aload_n hx hb dX1_back_47 rfl (lv_at hl 2 rfl) ?_
              refine lv_iload hx hb dX1_back_48 (lv_at hl 4 rfl) ?_
              refine qw_i (w2 := []) (va_runV (As := [.ref (q (4 * l_.toNatClampNeg)), .int (nI k)]) (rest := []) ⟨hx, hb, hml, hown, hts⟩ (c_X1_unloadWant l D kI kJ kL a q Sx Nx F B H.size l_.toNatClampNeg (nI k) h_1j hin hbx hnx) (cwV 2 hts gX1_back_X1_unloadWant rfl rfl rfl (by decide +kernel) ⟨Nat.le_of_ble_eq_true rfl, Nat.le_of_ble_eq_true rfl⟩) (q_wV (w2 := []) hK hN (by rw [List.append_nil]; exact hP) (by rw [List.append_nil]; exact hD) (va_recv hK hP (ci := 4) (q0 := 0) rfl rfl)) rfl rfl hl.1 rfl (lv_room (Nat.le_of_ble_eq_true rfl)) dX1_back_50 ⟨Nat.le_of_ble_eq_true rfl, Nat.le_of_ble_eq_true rfl⟩) (by rw [List.append_nil]; exact hP) (by rw [List.append_nil]; exact hD) hS hA (fun r_21 u_22 H locs h_20 hP hD hS => ?_)
              rw [List.append_nil] at hP hD
              obtain ⟨rfl, rfl⟩ := h_20
              have hP : va_P D vwCl (xW kI kL a q ((xuw Sx Nx l_.toNatClampNeg (nI k)).2.1) ((xuw Sx Nx l_.toNatClampNeg (nI k)).2.2) F B) H := hP
              have hD : va_D A (xW kI kL a q ((xuw Sx Nx l_.toNatClampNeg (nI k)).2.1) ((xuw Sx Nx l_.toNatClampNeg (nI k)).2.2) F B) := hD
              refine lv_if_eq (tgt := 59) hx hb dX1_back_53 (by decide) (fun c_23 => ?_) (fun c_23 => ?_)
              · rw [cif_t c_23] at hv
                obtain ⟨x_24, ex_24⟩ : ∃ y : Int32, y = (nI k) + (-1) := ⟨_, rfl⟩
                refine lv_iinc (v := x_24) (lv' := [(4, .int x_24), (0, .ref (a 0)), (1, .int l_), (2, .ref (q (4 * l_.toNatClampNeg))), (3, .int x3)]) hx hb dX1_back_59 hl (k := 4) rfl (by rw [ex_24]; rfl) (by decide) rfl (fun ls hl => ?_)
                refine lv_goto (tgt := 41) hx hb dX1_back_62 (by decide) ?_
                rw [show x_24 = nI k - 1 from (ex_24).trans (nI_m1 k)] at hl
                exact ih41 k x3 ((xuw Sx Nx l_.toNatClampNeg (nI k)).2.1) ((xuw Sx Nx l_.toNatClampNeg (nI k)).2.2) (by omega) (by omega) hv (by rw [hxk.2.1]; exact hW1) (by rw [hxk.2.2]; exact hW3) (by rw [hxk.1]; exact hS6) H locs hP hD hS ls (lv_sub hl [1, 2, 3, 4, 0] rfl)
              · rw [cif_f c_23] at hv
                obtain ⟨x_25, ex_25⟩ : ∃ y : Int32, y = x3 + (1) := ⟨_, rfl⟩
                refine lv_iinc (v := x_25) (lv' := [(3, .int x_25), (0, .ref (a 0)), (1, .int l_), (2, .ref (q (4 * l_.toNatClampNeg))), (4, .int (nI k))]) hx hb dX1_back_56 hl (k := 3) rfl (by rw [ex_25]; rfl) (by decide) rfl (fun ls hl => ?_)
                obtain ⟨x_26, ex_26⟩ : ∃ y : Int32, y = (nI k) + (-1) := ⟨_, rfl⟩
                refine lv_iinc (v := x_26) (lv' := [(4, .int x_26), (3, .int x_25), (0, .ref (a 0)), (1, .int l_), (2, .ref (q (4 * l_.toNatClampNeg)))]) hx hb dX1_back_59 hl (k := 4) rfl (by rw [ex_26]; rfl) (by decide) rfl (fun ls hl => ?_)
                refine lv_goto (tgt := 41) hx hb dX1_back_62 (by decide) ?_
                rw [show x_26 = nI k - 1 from (ex_26).trans (nI_m1 k)] at hl
                exact ih41 k x_25 ((xuw Sx Nx l_.toNatClampNeg (nI k)).2.1) ((xuw Sx Nx l_.toNatClampNeg (nI k)).2.2) (by omega) (by omega) (by rw [ex_25]; exact hv) (by rw [hxk.2.1]; exact hW1) (by rw [hxk.2.2]; exact hW3) (by rw [hxk.1]; exact hS6) H locs hP hD hS ls (lv_sub hl [2, 3, 4, 1, 0] rfl)
        rw [show ((N l_.toNatClampNeg 1 0) - 1) = nI n - 1 by rw [hW]] at hl
        exact loop41 (n + 1) n 0 S N (by omega) (by omega) rfl hW rfl rfl s.heap [] hP hD hS ls (lv_sub hl [3, 4, 2, 1, 0] rfl)
      · refine lv_bipush (v := -3) hx hb dX1_back_28 (by decide) ?_
        exact W.iret (v := (-3)) hx hb hr (fun t9 ht hW => ⟨⟨(-3), (S, N), rfl, ⟨by simp only [xs_back, cif_t h_1, cif_f c_3, cif_f c_15], by simp only [xs_back, cif_t h_1, cif_f c_3, cif_f c_15]⟩, by rw [ht]; exact hP, va_K.moved hW.alike hK, by rw [hAe]; exact hD⟩, hS.F ht⟩) hS.2.2 dX1_back_30

set_option maxHeartbeats 4000000 in
set_option maxRecDepth 100000 in
theorem c_X1_clear (l : Launch) (D : va_G) (kI kJ kL : ClassId) (a q : Nat → Nat) (S : Nat → Nat → Int32) (N : Nat → Nat → Nat → Int32) (F : Nat → Option Nat) (B : Nat) (sz : Nat) : Met l yX1_clear wsX1_clear ({ frames := 0, cells := 0, slots := 0, locals := 0 }) (q_wP D (xTY kI kJ kL) (xW kI kL a q S N F B) sz [.ref (a 0)]) (va_Qi (fun r (u : (Nat → Nat → Int32) × (Nat → Nat → Nat → Int32)) => r = S 6 0 ∧ u = (xcl S 6, N)) (q_wB D (xTY kI kJ kL) (xW kI kL a q S N F B) sz (fun u : (Nat → Nat → Int32) × (Nat → Nat → Nat → Int32) => xW kI kL a q u.1 u.2 F 0)) (va_A (xW kI kL a q S N F B) sz)) 0 0 (va_A (xW kI kL a q S N F B) sz) := by
  refine Met.ofW (cc := cX1_clear) (maxL := 3) (ret := (some .int)) (by decide) rfl ?_
  intro p e s m args below meth c s₁ Bd hml hv
  obtain ⟨rfl, hsz, hP, hK, hD0, hN⟩ := hv
  have hx := Bd.exec
  have hb := Bd.bytes
  have hr := Bd.returns
  have hts := atoms_spec (ws := wsX1_clear) Bd.pre
  have hown : s.vm.findClass RX1 = some m.cls := findClass_of_methodNamed Bd.named
  have hlocks := Bd.notSynchronized
  subst hsz
  have hD := hD0.self (sz := s.heap.size)
  generalize hAe : va_A (xW kI kL a q S N F B) s.heap.size = A at hD ⊢
  have hA : ∀ q : Nat, s.heap.size ≤ q → A q := fun q h => by rw [← hAe]; exact Or.inr h
  have hS : va_S A s.heap s.heap [] := va_S.rf
  have hl := lv_entry ([.ref (a 0)]) (n := 3) (Nat.le_of_ble_eq_true rfl)
  rw [lg_entry_eq]
  generalize (lg_sl ([.ref (a 0)]) ++ List.replicate (3 - (lg_sl ([.ref (a 0)])).length) Slot.unset).toArray = ls at hl ⊢
  have hl : lv_has ls 3 [(0, .ref (a 0))] := hl
  have hinX1 : ∀ w ∈ u_ws RX1 TX1 9, w ∈ wsX1_clear := by decide +kernel
  refine lv_aload_n hx hb dX1_clear_0 rfl (lv_at hl 0 rfl) ?_
  refine va_get (D := D) (ci := 4) (v := .int (S 6 0)) (C := RX1) (T := TX1) (N := 9) hx hb hts hinX1 hown hK hP 0 rfl rfl 5 (by decide) (hts (.fieldLink RX1 38 "LoanCases" "things" "I") (by decide +kernel)) (fun _ h9 => h9) rfl dX1_clear_1 ?_
  refine lv_istore_n (lv' := [(1, .int (S 6 0)), (0, .ref (a 0))]) hx hb dX1_clear_4 rfl hl (by decide) rfl (fun ls hl => ?_)
  refine lv_aload_n hx hb dX1_clear_5 rfl (lv_at hl 1 rfl) ?_
  refine lv_iconst (v := 0) hx hb dX1_clear_6 (by decide) ?_
  refine va_put (D := D) (ci := 4) (v := .int 0) (ty := .int) (C := RX1) (T := TX1) (N := 9) hx hb hts hinX1 tyX1 tyX1_ok nmX1 hown hK hP hD hS 0 rfl rfl 5 (by decide) (hts (.fieldLink RX1 38 "LoanCases" "things" "I") (by decide +kernel)) (fun _ h9 => h9) rfl (by decide +kernel) rfl rfl (Nat.le_of_ble_eq_true rfl) dX1_clear_7 (fun H locs hP hD hS => ?_)
  have hP : va_P D vwCl (xW kI kL a q (sU S 6 0 0) N F B) H := hP
  have hD : va_D A (xW kI kL a q (sU S 6 0 0) N F B) := hD
  refine lv_aload_n hx hb dX1_clear_10 rfl (lv_at hl 1 rfl) ?_
  refine lv_iconst (v := 0) hx hb dX1_clear_11 (by decide) ?_
  refine va_put (D := D) (ci := 4) (v := .int 0) (ty := .int) (C := RX1) (T := TX1) (N := 9) hx hb hts hinX1 tyX1 tyX1_ok nmX1 hown hK hP hD hS 0 rfl rfl 7 (by decide) (hts (.fieldLink RX1 99 "LoanCases" "begun" "I") (by decide +kernel)) (fun _ h9 => h9) rfl (by decide +kernel) rfl rfl (Nat.le_of_ble_eq_true rfl) dX1_clear_12 (fun H locs hP hD hS => ?_)
  have hP : va_P D vwCl (xW kI kL a q (sU (sU S 6 0 0) 7 0 0) N F B) H := hP
  have hD : va_D A (xW kI kL a q (sU (sU S 6 0 0) 7 0 0) N F B) := hD
  refine lv_iconst (v := 0) hx hb dX1_clear_15 (by decide) ?_
  refine lv_istore_n (lv' := [(2, .int 0), (1, .int (S 6 0)), (0, .ref (a 0))]) hx hb dX1_clear_16 rfl hl (by decide) rfl (fun ls hl => ?_)
  have loop17 : ∀ (n17 : Nat) (i : Nat), (7 ≤ i + n17) → (i ≤ 6) → ∀ (H : Heap) (locs : List Loc), va_P D vwCl (xW kI kL a q (xcl S i) N F B) H → va_D A (xW kI kL a q (xcl S i) N F B) → va_S A s.heap H locs → ∀ (ls : Array Slot), lv_has ls 3 [(0, .ref (a 0)), (1, .int (S 6 0)), (2, .int (nI i))] → W p l e ({ frames := 0, cells := 0, slots := 0, locals := 0 }) s m ([.ref (a 0)] : List Value).toArray below meth c H locs 0 0 (MQ below (va_Qi (fun r (u : (Nat → Nat → Int32) × (Nat → Nat → Nat → Int32)) => r = S 6 0 ∧ u = (xcl S 6, N)) (q_wB D (xTY kI kJ kL) (xW kI kL a q S N F B) s.heap.size (fun u : (Nat → Nat → Int32) × (Nat → Nat → Nat → Int32) => xW kI kL a q u.1 u.2 F 0)) A) ([.ref (a 0)] : List Value).toArray s 0 0 A) (F0 m 17 ls []) := by
    intro n17
    induction n17 with
    | zero =>
      intro i hf hi
      exact absurd hf (by omega)
    | succ n17 ih17 =>
      intro i hf hi H locs hP hD hS ls hl
      refine lv_iload_n hx hb dX1_clear_17 rfl (lv_at hl 2 rfl) ?_
      refine lv_iconst (v := 5) hx hb dX1_clear_18 (by decide) ?_
      refine lv_icmp_gt (tgt := 35) hx hb dX1_clear_19 (by decide) (fun c_1 => ?_) (fun c_1 => ?_)
      · have hi2 : i = 6 := by
          have h7 : 5 < i := (nI_ltI (a := 5) (b := i) (by omega) (by omega)).mp c_1
          omega
        subst hi2
        refine lv_iload_n hx hb dX1_clear_35 rfl (lv_at hl 1 rfl) ?_
        have hP : va_P D vwCl (xW kI kL a q (xcl S 6) N F 0) H := by
          show va_P D vwCl (xF kI kL a (xcl S 6) F ++ []) H
          rw [List.append_nil]
          exact qb_Pl hP
        have hD : va_D A (xW kI kL a q (xcl S 6) N F 0) := by
          show va_D A (xF kI kL a (xcl S 6) F ++ [])
          rw [List.append_nil]
          exact qb_Dl hD
        exact W.iret (v := S 6 0) hx hb hr (fun t9 ht hW => ⟨⟨S 6 0, (xcl S 6, N), rfl, ⟨rfl, rfl⟩, by rw [ht]; exact hP, va_K.moved hW.alike hK, by rw [hAe]; exact hD⟩, hS.F ht⟩) hS.2.2 dX1_clear_36
      · have hi2 : i ≤ 5 := Nat.le_of_not_lt (fun h8 => c_1 ((nI_ltI (a := 5) (b := i) (by omega) (by omega)).mpr h8))
        have hin : vp_in (nI i) 6 := vp_in_nI (by omega) (by omega)
        refine lv_aload_n hx hb dX1_clear_22 rfl (lv_at hl 0 rfl) ?_
        refine va_get (D := D) (ci := 4) (v := .ref (a 7)) (C := RX1) (T := TX1) (N := 9) hx hb hts hinX1 hown hK hP 0 rfl rfl 8 (by decide) (hts (.fieldLink RX1 31 "LoanCases" "findings" "[I") (by decide +kernel)) (fun _ h9 => h9) rfl dX1_clear_23 ?_
        refine lv_iload_n hx hb dX1_clear_26 rfl (lv_at hl 2 rfl) ?_
        refine lv_iconst (v := 0) hx hb dX1_clear_27 (by decide) ?_
        refine va_iast hx hb hK hP hD hS 7 0 rfl rfl hin dX1_clear_28 (fun H locs hP hD hS => ?_)
        have hP : va_P D vwCl (xW kI kL a q (sU (xcl S i) 5 ((nI i).toNatClampNeg) 0) N F B) H := hP
        have hD : va_D A (xW kI kL a q (sU (xcl S i) 5 ((nI i).toNatClampNeg) 0) N F B) := hD
        obtain ⟨x_2, ex_2⟩ : ∃ y : Int32, y = (nI i) + (1) := ⟨_, rfl⟩
        refine lv_iinc (v := x_2) (lv' := [(2, .int x_2), (0, .ref (a 0)), (1, .int (S 6 0))]) hx hb dX1_clear_29 hl (k := 2) rfl (by rw [ex_2]; rfl) (by decide) rfl (fun ls hl => ?_)
        refine lv_goto (tgt := 17) hx hb dX1_clear_32 (by decide) ?_
        rw [show x_2 = nI (i + 1) from (ex_2).trans (nI_1 i)] at hl
        exact ih17 (i + 1) (by omega) (by omega) H locs hP hD hS ls (lv_sub hl [1, 2, 0] rfl)
  exact loop17 7 0 (by omega) (by omega) H locs hP hD hS ls (lv_sub hl [2, 1, 0] rfl)
