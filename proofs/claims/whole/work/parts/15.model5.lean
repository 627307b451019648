set_option maxHeartbeats 4000000 in
set_option maxRecDepth 100000 in
theorem c_X2_leave (l : Launch) (D : va_G) (kI kJ kL : ClassId) (a : Nat → Nat) (S : Nat → Nat → Int32) (G : Nat → Int64) (sz : Nat) (l_ : Int32) (B : Nat) (hl7 : S 7 0 = nI B) (hB : B ≤ 8) (hw9 : ∀ i, i < 8 → ∃ n : Nat, n ≤ 8 ∧ S 9 i = nI n) (hb11 : ∀ i, i < 64 → vp_in (S 11 i) 110) (hfm : ∀ i, i < 110 → vp_in (S 0 i) 19) (hpv : ∀ i, i < 1100 → S 4 i < 0 ∨ vp_in (S 4 i) 110) : Met l yX2_leave wsX2_leave ({ frames := 2, cells := 0, slots := 0, locals := 46 }) (q_wP D (xTY kI kJ kL) (mW kI kJ a S G) sz [.ref (a 0), .int l_]) (va_Qi (fun r (u : (Nat → Nat → Int32) × (Nat → Int64)) => r = (ms_leave (sU S 16 0 0) l_).1 ∧ u = ((ms_leave (sU S 16 0 0) l_).2, G)) (q_wB D (xTY kI kJ kL) (mW kI kJ a S G) sz (fun u : (Nat → Nat → Int32) × (Nat → Int64) => mW kI kJ a u.1 u.2)) (va_A (mW kI kJ a S G) sz)) 0 0 (va_A (mW kI kJ a S G) sz) := by
  refine Met.ofW (cc := cX2_leave) (maxL := 5) (ret := (some .int)) (by decide) rfl ?_
  intro p e s m args below meth c s₁ Bd hml hv
  obtain ⟨rfl, hsz, hP, hK, hD0, hN⟩ := hv
  have hx := Bd.exec
  have hb := Bd.bytes
  have hr := Bd.returns
  have hts := atoms_spec (ws := wsX2_leave) Bd.pre
  have hown : s.vm.findClass RX2 = some m.cls := findClass_of_methodNamed Bd.named
  have hlocks := Bd.notSynchronized
  subst hsz
  have hD := hD0.self (sz := s.heap.size)
  generalize hAe : va_A (mW kI kJ a S G) s.heap.size = A at hD ⊢
  have hA : ∀ q : Nat, s.heap.size ≤ q → A q := fun q h => by rw [← hAe]; exact Or.inr h
  have hS : va_S A s.heap s.heap [] := va_S.rf
  have hl := lv_entry ([.ref (a 0), .int l_]) (n := 5) (Nat.le_of_ble_eq_true rfl)
  rw [lg_entry_eq]
  generalize (lg_sl ([.ref (a 0), .int l_]) ++ List.replicate (5 - (lg_sl ([.ref (a 0), .int l_])).length) Slot.unset).toArray = ls at hl ⊢
  have hl : lv_has ls 5 [(0, .ref (a 0)), (1, .int l_)] := hl
  have hinX2 : ∀ w ∈ u_ws RX2 TX2 17, w ∈ wsX2_leave := by decide +kernel
  refine lv_aload_n hx hb dX2_leave_0 rfl (lv_at hl 0 rfl) ?_
  refine lv_iconst (v := 0) hx hb dX2_leave_1 (by decide) ?_
  refine va_put (D := D) (ci := 5) (v := .int 0) (ty := .int) (C := RX2) (T := TX2) (N := 17) hx hb hts hinX2 tyX2 tyX2_ok nmX2 hown hK hP hD hS 0 rfl rfl 0 (by decide) (hts (.fieldLink RX2 59 "LoanCasesModel" "fault" "I") (by decide +kernel)) (fun _ h9 => h9) rfl (by decide +kernel) rfl rfl (Nat.le_of_ble_eq_true rfl) dX2_leave_2 (fun H locs hP hD hS => ?_)
  have hP : va_P D vwCl (mW kI kJ a (sU S 16 0 0) G) H := hP
  have hD : va_D A (mW kI kJ a (sU S 16 0 0) G) := hD
  obtain ⟨S0, hS0⟩ : ∃ S0, S0 = sU S 16 0 0 := ⟨_, rfl⟩
  rw [← hS0] at hP hD
  have hl7 : S0 7 0 = nI B := by rw [hS0]; exact hl7
  have hw9 : ∀ i, i < 8 → ∃ n : Nat, n ≤ 8 ∧ S0 9 i = nI n := by rw [hS0]; exact hw9
  have hb11 : ∀ i, i < 64 → vp_in (S0 11 i) 110 := by rw [hS0]; exact hb11
  have hfm : ∀ i, i < 110 → vp_in (S0 0 i) 19 := by rw [hS0]; exact hfm
  have hpv : ∀ i, i < 1100 → S0 4 i < 0 ∨ vp_in (S0 4 i) 110 := by rw [hS0]; exact hpv
  refine lv_aload_n hx hb dX2_leave_5 rfl (lv_at hl 0 rfl) ?_
  refine lv_iload_n hx hb dX2_leave_6 rfl (lv_at hl 1 rfl) ?_
  refine vp_callSi (W.runV (As := [.int l_]) (rest := []) ⟨hx, hb, hml, hown, hts⟩ (c_X2_isLoan l D kI kJ kL a S0 G l_) (cwV 1 hts gX2_leave_X2_isLoan rfl rfl rfl (by decide +kernel) ⟨Nat.le_of_ble_eq_true rfl, Nat.le_of_ble_eq_true rfl⟩) (q_rV (w2 := []) hK hN (by rw [List.append_nil]; exact hP) (va_recv hK hP (ci := 5) (q0 := 0) rfl rfl)) rfl rfl hl.1 rfl (lv_room (Nat.le_of_ble_eq_true rfl)) dX2_leave_7 ⟨Nat.le_of_ble_eq_true rfl, Nat.le_of_ble_eq_true rfl⟩) (fun r_h_1 h_1 => ?_)
  rcases h_1 with ⟨rfl, h_1⟩ | ⟨rfl, h_1⟩
  · refine lv_if_ne (tgt := 15) hx hb dX2_leave_10 (by decide) (fun c_2 => ?_) (fun c_2 => absurd c_2 (by decide))
    refine lv_aload_n hx hb dX2_leave_15 rfl (lv_at hl 0 rfl) ?_
    refine va_get (D := D) (ci := 5) (v := .ref (a 8)) (C := RX2) (T := TX2) (N := 17) hx hb hts hinX2 hown hK hP 0 rfl rfl 10 (by decide) (hts (.fieldLink RX2 38 "LoanCasesModel" "states" "[I") (by decide +kernel)) (fun _ h9 => h9) rfl dX2_leave_16 ?_
    refine lv_iload_n hx hb dX2_leave_19 rfl (lv_at hl 1 rfl) ?_
    refine va_iald (f := S0 8) hx hb hK hP 8 0 rfl rfl (mLn_in hl7 hB h_1) dX2_leave_20 ?_
    refine lv_if_eq (tgt := 27) hx hb dX2_leave_21 (by decide) (fun c_3 => ?_) (fun c_3 => ?_)
    · have hl8 : vp_in l_ 8 := (mLn_in hl7 hB h_1)
      obtain ⟨n9, hn9, hW⟩ := hw9 _ (vin_lt hl8)
      have hWc : (S0 9 l_.toNatClampNeg).toNatClampNeg = n9 := by rw [hW]; exact nI_clamp (by omega)
      refine lv_iconst (v := 0) hx hb dX2_leave_27 (by decide) ?_
      refine lv_istore_n (lv' := [(2, .int 0), (0, .ref (a 0)), (1, .int l_)]) hx hb dX2_leave_28 rfl hl (by decide) rfl (fun ls hl => ?_)
      have loop29 : ∀ (n29 : Nat) (i : Nat) (Sx : Nat → Nat → Int32), (n9 + 1 ≤ i + n29) → (i ≤ n9) → (mlv l_ i (n9 - i) Sx = mlv l_ 0 n9 S0) → (Sx 0 = S0 0) → (Sx 9 = S0 9) → (Sx 11 = S0 11) → (∀ i, i < 1100 → mV (Sx 4 i)) → ∀ (H : Heap) (locs : List Loc), va_P D vwCl (mW kI kJ a Sx G) H → va_D A (mW kI kJ a Sx G) → va_S A s.heap H locs → ∀ (ls : Array Slot), lv_has ls 5 [(0, .ref (a 0)), (1, .int l_), (2, .int (nI i))] → W p l e ({ frames := 2, cells := 0, slots := 0, locals := 46 }) s m ([.ref (a 0), .int l_] : List Value).toArray below meth c H locs 0 0 (MQ below (va_Qi (fun r (u : (Nat → Nat → Int32) × (Nat → Int64)) => r = (ms_leave (sU S 16 0 0) l_).1 ∧ u = ((ms_leave (sU S 16 0 0) l_).2, G)) (q_wB D (xTY kI kJ kL) (mW kI kJ a S G) s.heap.size (fun u : (Nat → Nat → Int32) × (Nat → Int64) => mW kI kJ a u.1 u.2)) A) ([.ref (a 0), .int l_] : List Value).toArray s 0 0 A) (F0 m 29 ls []) := by
        intro n29
        induction n29 with
        | zero =>
          intro i Sx hf hi hv hx0 hx9 hx11 hpx
          exact absurd hf (by omega)
        | succ n29 ih29 =>
          intro i Sx hf hi hv hx0 hx9 hx11 hpx H locs hP hD hS ls hl
          refine lv_iload_n hx hb dX2_leave_29 rfl (lv_at hl 2 rfl) ?_
          refine lv_aload_n hx hb dX2_leave_30 rfl (lv_at hl 0 rfl) ?_
          refine va_get (D := D) (ci := 5) (v := .ref (a 9)) (C := RX2) (T := TX2) (N := 17) hx hb hts hinX2 hown hK hP 0 rfl rfl 11 (by decide) (hts (.fieldLink RX2 41 "LoanCasesModel" "wants" "[I") (by decide +kernel)) (fun _ h9 => h9) rfl dX2_leave_31 ?_
          refine lv_iload_n hx hb dX2_leave_34 rfl (lv_at hl 1 rfl) ?_
          refine va_iald (f := Sx 9) hx hb hK hP 9 0 rfl rfl hl8 dX2_leave_35 ?_
          refine lv_icmp_ge (tgt := 128) hx hb dX2_leave_36 (by decide) (fun c_4 => ?_) (fun c_4 => ?_)
          · rw [hx9, hW] at c_4
            have hi2 : i = n9 := by
              have h7 : n9 ≤ i := (nI_leI (a := n9) (b := i) (by omega) (by omega)).mp c_4
              omega
            rw [show n9 - i = 0 by omega, mlv] at hv
            refine lv_aload_n hx hb dX2_leave_128 rfl (lv_at hl 0 rfl) ?_
            refine va_get (D := D) (ci := 5) (v := .ref (a 8)) (C := RX2) (T := TX2) (N := 17) hx hb hts hinX2 hown hK hP 0 rfl rfl 10 (by decide) (hts (.fieldLink RX2 38 "LoanCasesModel" "states" "[I") (by decide +kernel)) (fun _ h9 => h9) rfl dX2_leave_129 ?_
            refine lv_iload_n hx hb dX2_leave_132 rfl (lv_at hl 1 rfl) ?_
            refine lv_iconst (v := 2) hx hb dX2_leave_133 (by decide) ?_
            refine va_iast hx hb hK hP hD hS 8 0 rfl rfl hl8 dX2_leave_134 (fun H locs hP hD hS => ?_)
            have hP : va_P D vwCl (mW kI kJ a (sU Sx 8 l_.toNatClampNeg 2) G) H := hP
            have hD : va_D A (mW kI kJ a (sU Sx 8 l_.toNatClampNeg 2) G) := hD
            refine lv_iconst (v := 1) hx hb dX2_leave_135 (by decide) ?_
            exact W.iret (v := 1) hx hb hr (fun t9 ht hW => ⟨⟨1, ((sU Sx 8 l_.toNatClampNeg 2), G), rfl, (by rw [← hS0, ms_leave, cif_t h_1, cif_t c_3, hWc, ← hv]; exact ⟨rfl, rfl⟩), by rw [ht]; exact hP, va_K.moved hW.alike hK, by rw [hAe]; exact hD⟩, hS.F ht⟩) hS.2.2 dX2_leave_136
          · rw [hx9, hW] at c_4
            have hi2 : i < n9 := Nat.lt_of_not_le (fun h8 => c_4 ((nI_leI (a := n9) (b := i) (by omega) (by omega)).mpr h8))
            have h64 : vp_in (8 * l_ + nI i) 64 := m8_in hl8 (vp_in_nI (by omega) (by omega))
            have hbx : vp_in (Sx 11 (8 * l_ + nI i).toNatClampNeg) 110 := by rw [hx11]; exact hb11 _ (vin_lt h64)
            rw [show n9 - i = (n9 - (i + 1)) + 1 by omega, mlv] at hv
            refine lv_aload_n hx hb dX2_leave_39 rfl (lv_at hl 0 rfl) ?_
            refine va_get (D := D) (ci := 5) (v := .ref (a 11)) (C := RX2) (T := TX2) (N := 17) hx hb hts hinX2 hown hK hP 0 rfl rfl 13 (by decide) (hts (.fieldLink RX2 47 "LoanCasesModel" "boxes" "[I") (by decide +kernel)) (fun _ h9 => h9) rfl dX2_leave_40 ?_
            refine lv_bipush (v := 8) hx hb dX2_leave_43 (by decide) ?_
            refine lv_iload_n hx hb dX2_leave_45 rfl (lv_at hl 1 rfl) ?_
            refine lv_imul hx hb dX2_leave_46 ?_
            refine lv_iload_n hx hb dX2_leave_47 rfl (lv_at hl 2 rfl) ?_
            refine lv_iadd hx hb dX2_leave_48 ?_
            refine va_iald (f := Sx 11) hx hb hK hP 11 0 rfl rfl h64 dX2_leave_49 ?_
            refine lv_istore_n (lv' := [(3, .int (Sx 11 ((8 * l_) + (nI i)).toNatClampNeg)), (0, .ref (a 0)), (1, .int l_), (2, .int (nI i))]) hx hb dX2_leave_50 rfl hl (by decide) rfl (fun ls hl => ?_)
            refine lv_aload_n hx hb dX2_leave_51 rfl (lv_at hl 1 rfl) ?_
            refine lv_iload_n hx hb dX2_leave_52 rfl (lv_at hl 0 rfl) ?_
            refine vp_callSi (W.runV (As := [.int (Sx 11 ((8 * l_) + (nI i)).toNatClampNeg)]) (rest := []) ⟨hx, hb, hml, hown, hts⟩ (c_X2_heldBy l D kI kJ kL a Sx G (Sx 11 ((8 * l_) + (nI i)).toNatClampNeg) hbx) (cwV 1 hts gX2_leave_X2_heldBy rfl rfl rfl (by decide +kernel) ⟨Nat.le_of_ble_eq_true rfl, Nat.le_of_ble_eq_true rfl⟩) (q_rV (w2 := []) hK hN (by rw [List.append_nil]; exact hP) (va_recv hK hP (ci := 5) (q0 := 0) rfl rfl)) rfl rfl hl.1 rfl (lv_room (Nat.le_of_ble_eq_true rfl)) dX2_leave_53 ⟨Nat.le_of_ble_eq_true rfl, Nat.le_of_ble_eq_true rfl⟩) (fun r_6 h_5 => ?_)
            subst h_5
            refine lv_istore (lv' := [(4, .int (mnx Sx (Sx 11 ((8 * l_) + (nI i)).toNatClampNeg))), (3, .int (Sx 11 ((8 * l_) + (nI i)).toNatClampNeg)), (0, .ref (a 0)), (1, .int l_), (2, .int (nI i))]) hx hb dX2_leave_56 hl (by decide) rfl (fun ls hl => ?_)
            refine lv_iload hx hb dX2_leave_58 (lv_at hl 0 rfl) ?_
            refine lv_if_ge (tgt := 71) hx hb dX2_leave_60 (by decide) (fun c_7 => ?_) (fun c_7 => ?_)
            · rw [cif_t c_7] at hv
              refine lv_aload_n hx hb dX2_leave_71 rfl (lv_at hl 2 rfl) ?_
              refine lv_iload hx hb dX2_leave_72 (lv_at hl 0 rfl) ?_
              refine lv_aload_n hx hb dX2_leave_74 rfl (lv_at hl 2 rfl) ?_
              refine va_get (D := D) (ci := 5) (v := .ref (a 12)) (C := RX2) (T := TX2) (N := 17) hx hb hts hinX2 hown hK hP 0 rfl rfl 14 (by decide) (hts (.fieldLink RX2 50 "LoanCasesModel" "kinds" "[I") (by decide +kernel)) (fun _ h9 => h9) rfl dX2_leave_75 ?_
              refine lv_bipush (v := 8) hx hb dX2_leave_78 (by decide) ?_
              refine lv_iload_n hx hb dX2_leave_80 rfl (lv_at hl 3 rfl) ?_
              refine lv_imul hx hb dX2_leave_81 ?_
              refine lv_iload_n hx hb dX2_leave_82 rfl (lv_at hl 4 rfl) ?_
              refine lv_iadd hx hb dX2_leave_83 ?_
              refine va_iald (f := Sx 12) hx hb hK hP 12 0 rfl rfl h64 dX2_leave_84 ?_
              refine vp_callSi (W.runV (As := [.int (mnx Sx (Sx 11 ((8 * l_) + (nI i)).toNatClampNeg)), .int (Sx 12 ((8 * l_) + (nI i)).toNatClampNeg)]) (rest := []) ⟨hx, hb, hml, hown, hts⟩ (c_X2_isOf l D kI kJ kL a Sx G (mnx Sx (Sx 11 ((8 * l_) + (nI i)).toNatClampNeg)) (Sx 12 ((8 * l_) + (nI i)).toNatClampNeg) (mfl_ge (hpx _ (vin_lt (m10_in hbx))) (Int32.not_lt.mpr c_7)) (by rw [hx0]; exact hfm)) (cwV 2 hts gX2_leave_X2_isOf rfl rfl rfl (by decide +kernel) ⟨Nat.le_of_ble_eq_true rfl, Nat.le_of_ble_eq_true rfl⟩) (q_rV (w2 := []) hK hN (by rw [List.append_nil]; exact hP) (va_recv hK hP (ci := 5) (q0 := 0) rfl rfl)) rfl rfl hl.1 rfl (lv_room (Nat.le_of_ble_eq_true rfl)) dX2_leave_85 ⟨Nat.le_of_ble_eq_true rfl, Nat.le_of_ble_eq_true rfl⟩) (fun r_h_8 h_8 => ?_)
              rcases h_8 with ⟨rfl, h_8⟩ | ⟨rfl, h_8⟩
              · rw [cif_t h_8] at hv
                refine lv_if_ne (tgt := 99) hx hb dX2_leave_88 (by decide) (fun c_9 => ?_) (fun c_9 => absurd c_9 (by decide))
                refine lv_aload_n hx hb dX2_leave_99 rfl (lv_at hl 2 rfl) ?_
                refine va_get (D := D) (ci := 5) (v := .ref (a 13)) (C := RX2) (T := TX2) (N := 17) hx hb hts hinX2 hown hK hP 0 rfl rfl 15 (by decide) (hts (.fieldLink RX2 53 "LoanCasesModel" "vans" "[I") (by decide +kernel)) (fun _ h9 => h9) rfl dX2_leave_100 ?_
                refine lv_bipush (v := 8) hx hb dX2_leave_103 (by decide) ?_
                refine lv_iload_n hx hb dX2_leave_105 rfl (lv_at hl 3 rfl) ?_
                refine lv_imul hx hb dX2_leave_106 ?_
                refine lv_iload_n hx hb dX2_leave_107 rfl (lv_at hl 4 rfl) ?_
                refine lv_iadd hx hb dX2_leave_108 ?_
                refine lv_iload hx hb dX2_leave_109 (lv_at hl 0 rfl) ?_
                refine va_iast hx hb hK hP hD hS 13 0 rfl rfl h64 dX2_leave_111 (fun H locs hP hD hS => ?_)
                have hP : va_P D vwCl (mW kI kJ a (sU Sx 13 (((8 * l_) + (nI i)).toNatClampNeg) (mnx Sx (Sx 11 ((8 * l_) + (nI i)).toNatClampNeg))) G) H := hP
                have hD : va_D A (mW kI kJ a (sU Sx 13 (((8 * l_) + (nI i)).toNatClampNeg) (mnx Sx (Sx 11 ((8 * l_) + (nI i)).toNatClampNeg))) G) := hD
                obtain ⟨S1, hS1⟩ : ∃ Z, Z = (sU Sx 13 (((8 * l_) + (nI i)).toNatClampNeg) (mnx Sx (Sx 11 ((8 * l_) + (nI i)).toNatClampNeg))) := ⟨_, rfl⟩
                rw [← hS1] at hP hD
                rw [← hS1] at hv
                refine lv_aload_n hx hb dX2_leave_112 rfl (lv_at hl 2 rfl) ?_
                refine va_get (D := D) (ci := 5) (v := .ref (a 5)) (C := RX2) (T := TX2) (N := 17) hx hb hts hinX2 hown hK hP 0 rfl rfl 6 (by decide) (hts (.fieldLink RX2 23 "LoanCasesModel" "places" "[I") (by decide +kernel)) (fun _ h9 => h9) rfl dX2_leave_113 ?_
                refine lv_bipush (v := 10) hx hb dX2_leave_116 (by decide) ?_
                refine lv_iload_n hx hb dX2_leave_118 rfl (lv_at hl 1 rfl) ?_
                refine lv_imul hx hb dX2_leave_119 ?_
                refine lv_iconst (v := -1) hx hb dX2_leave_120 (by decide) ?_
                refine va_iast hx hb hK hP hD hS 5 0 rfl rfl (m10_in hbx) dX2_leave_121 (fun H locs hP hD hS => ?_)
                have hP : va_P D vwCl (mW kI kJ a (sU S1 4 ((10 * (Sx 11 ((8 * l_) + (nI i)).toNatClampNeg)).toNatClampNeg) (-1)) G) H := hP
                have hD : va_D A (mW kI kJ a (sU S1 4 ((10 * (Sx 11 ((8 * l_) + (nI i)).toNatClampNeg)).toNatClampNeg) (-1)) G) := hD
                obtain ⟨x_10, ex_10⟩ : ∃ y : Int32, y = (nI i) + (1) := ⟨_, rfl⟩
                refine lv_iinc (v := x_10) (lv' := [(2, .int x_10), (4, .int (mnx Sx (Sx 11 ((8 * l_) + (nI i)).toNatClampNeg))), (3, .int (Sx 11 ((8 * l_) + (nI i)).toNatClampNeg)), (0, .ref (a 0)), (1, .int l_)]) hx hb dX2_leave_122 hl (k := 4) rfl (by rw [ex_10]; rfl) (by decide) rfl (fun ls hl => ?_)
                refine lv_goto (tgt := 29) hx hb dX2_leave_125 (by decide) ?_
                rw [show x_10 = nI (i + 1) from (ex_10).trans (nI_1 i)] at hl
                have hq : S1 0 = Sx 0 ∧ S1 9 = Sx 9 ∧ S1 11 = Sx 11 ∧ S1 4 = Sx 4 := by rw [hS1]; exact ⟨rfl, rfl, rfl, rfl⟩
                exact ih29 (i + 1) (sU S1 4 ((10 * (Sx 11 ((8 * l_) + (nI i)).toNatClampNeg)).toNatClampNeg) (-1)) (by omega) (by omega) hv (hq.1.trans hx0) (hq.2.1.trans hx9) (hq.2.2.1.trans hx11) (pv_put (by rw [hq.2.2.2]; exact hpx) (Or.inl (by decide))) H locs hP hD hS ls (lv_sub hl [3, 4, 0] rfl)
              · rw [cif_f h_8] at hv
                refine lv_if_ne (tgt := 99) hx hb dX2_leave_88 (by decide) (fun c_11 => absurd c_11 (by decide)) (fun c_11 => ?_)
                refine lv_aload_n hx hb dX2_leave_91 rfl (lv_at hl 2 rfl) ?_
                refine lv_iload_n hx hb dX2_leave_92 rfl (lv_at hl 3 rfl) ?_
                refine lv_iload_n hx hb dX2_leave_93 rfl (lv_at hl 4 rfl) ?_
                refine lv_iconst (v := 1) hx hb dX2_leave_94 (by decide) ?_
                refine qw_i (w2 := []) (va_runV (As := [.int l_, .int (nI i), .int 1]) (rest := []) ⟨hx, hb, hml, hown, hts⟩ (c_X2_stuck l D kI kJ kL a Sx G H.size l_ (nI i) 1 hl8 (by unfold vp_in; decide)) (cwV 3 hts gX2_leave_X2_stuck rfl rfl rfl (by decide +kernel) ⟨Nat.le_of_ble_eq_true rfl, Nat.le_of_ble_eq_true rfl⟩) (q_wV (w2 := []) hK hN (by rw [List.append_nil]; exact hP) (by rw [List.append_nil]; exact hD) (va_recv hK hP (ci := 5) (q0 := 0) rfl rfl)) rfl rfl hl.1 rfl (lv_room (Nat.le_of_ble_eq_true rfl)) dX2_leave_95 ⟨Nat.le_of_ble_eq_true rfl, Nat.le_of_ble_eq_true rfl⟩) (by rw [List.append_nil]; exact hP) (by rw [List.append_nil]; exact hD) hS hA (fun r_13 u_14 H locs h_12 hP hD hS => ?_)
                rw [List.append_nil] at hP hD
                obtain ⟨rfl, rfl⟩ := h_12
                have hP : va_P D vwCl (mW kI kJ a (xfd (sU (sU Sx 8 l_.toNatClampNeg 1) 10 l_.toNatClampNeg (nI i)) 1) G) H := hP
                have hD : va_D A (mW kI kJ a (xfd (sU (sU Sx 8 l_.toNatClampNeg 1) 10 l_.toNatClampNeg (nI i)) 1) G) := hD
                exact W.iret (v := (-30 - 1)) hx hb hr (fun t9 ht hW => ⟨⟨(-30 - 1), ((xfd (sU (sU Sx 8 l_.toNatClampNeg 1) 10 l_.toNatClampNeg (nI i)) 1), G), rfl, (by rw [← hS0, ms_leave, cif_t h_1, cif_t c_3, hWc, ← hv]; exact ⟨rfl, rfl⟩), by rw [ht]; exact hP, va_K.moved hW.alike hK, by rw [hAe]; exact hD⟩, hS.F ht⟩) hS.2.2 dX2_leave_98
            · rw [cif_f c_7] at hv
              refine lv_aload_n hx hb dX2_leave_63 rfl (lv_at hl 2 rfl) ?_
              refine lv_iload_n hx hb dX2_leave_64 rfl (lv_at hl 3 rfl) ?_
              refine lv_iload_n hx hb dX2_leave_65 rfl (lv_at hl 4 rfl) ?_
              refine lv_iconst (v := 2) hx hb dX2_leave_66 (by decide) ?_
              refine qw_i (w2 := []) (va_runV (As := [.int l_, .int (nI i), .int 2]) (rest := []) ⟨hx, hb, hml, hown, hts⟩ (c_X2_stuck l D kI kJ kL a Sx G H.size l_ (nI i) 2 hl8 (by unfold vp_in; decide)) (cwV 3 hts gX2_leave_X2_stuck rfl rfl rfl (by decide +kernel) ⟨Nat.le_of_ble_eq_true rfl, Nat.le_of_ble_eq_true rfl⟩) (q_wV (w2 := []) hK hN (by rw [List.append_nil]; exact hP) (by rw [List.append_nil]; exact hD) (va_recv hK hP (ci := 5) (q0 := 0) rfl rfl)) rfl rfl hl.1 rfl (lv_room (Nat.le_of_ble_eq_true rfl)) dX2_leave_67 ⟨Nat.le_of_ble_eq_true rfl, Nat.le_of_ble_eq_true rfl⟩) (by rw [List.append_nil]; exact hP) (by rw [List.append_nil]; exact hD) hS hA (fun r_16 u_17 H locs h_15 hP hD hS => ?_)
              rw [List.append_nil] at hP hD
              obtain ⟨rfl, rfl⟩ := h_15
              have hP : va_P D vwCl (mW kI kJ a (xfd (sU (sU Sx 8 l_.toNatClampNeg 1) 10 l_.toNatClampNeg (nI i)) 2) G) H := hP
              have hD : va_D A (mW kI kJ a (xfd (sU (sU Sx 8 l_.toNatClampNeg 1) 10 l_.toNatClampNeg (nI i)) 2) G) := hD
              exact W.iret (v := (-30 - 2)) hx hb hr (fun t9 ht hW => ⟨⟨(-30 - 2), ((xfd (sU (sU Sx 8 l_.toNatClampNeg 1) 10 l_.toNatClampNeg (nI i)) 2), G), rfl, (by rw [← hS0, ms_leave, cif_t h_1, cif_t c_3, hWc, ← hv]; exact ⟨rfl, rfl⟩), by rw [ht]; exact hP, va_K.moved hW.alike hK, by rw [hAe]; exact hD⟩, hS.F ht⟩) hS.2.2 dX2_leave_70
      exact loop29 (n9 + 1) 0 S0 (by omega) (by omega) rfl rfl rfl rfl hpv H locs hP hD hS ls (lv_sub hl [1, 2, 0] rfl)
    · refine lv_bipush (v := -3) hx hb dX2_leave_24 (by decide) ?_
      exact W.iret (v := (-3)) hx hb hr (fun t9 ht hW => ⟨⟨(-3), (S0, G), rfl, (by rw [← hS0]; exact ⟨by simp only [ms_leave, cif_t h_1, cif_f c_3, sU_s], by simp only [ms_leave, cif_t h_1, cif_f c_3, sU_s]⟩), by rw [ht]; exact hP, va_K.moved hW.alike hK, by rw [hAe]; exact hD⟩, hS.F ht⟩) hS.2.2 dX2_leave_26
  · refine lv_if_ne (tgt := 15) hx hb dX2_leave_10 (by decide) (fun c_18 => absurd c_18 (by decide)) (fun c_18 => ?_)
    refine lv_iconst (v := -1) hx hb dX2_leave_13 (by decide) ?_
    exact W.iret (v := (-1)) hx hb hr (fun t9 ht hW => ⟨⟨(-1), (S0, G), rfl, (by rw [← hS0]; exact ⟨by simp only [ms_leave, cif_f h_1, sU_s], by simp only [ms_leave, cif_f h_1, sU_s]⟩), by rw [ht]; exact hP, va_K.moved hW.alike hK, by rw [hAe]; exact hD⟩, hS.F ht⟩) hS.2.2 dX2_leave_14
