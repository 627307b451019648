set_option maxHeartbeats 4000000 in
set_option maxRecDepth 100000 in
theorem c_X2_back (l : Launch) (D : va_G) (kI kJ kL : ClassId) (a : Nat → Nat) (S : Nat → Nat → Int32) (G : Nat → Int64) (sz : Nat) (l_ : Int32) (B : Nat) (hl7 : S 7 0 = nI B) (hB : B ≤ 8) (hw9 : ∀ i, i < 8 → ∃ n : Nat, n ≤ 8 ∧ S 9 i = nI n) (hb11 : ∀ i, i < 64 → vp_in (S 11 i) 110) (hv13 : ∀ i, i < 64 → S 13 i < 0 ∨ vp_in (S 13 i) 110) (hpv : ∀ i, i < 1100 → S 4 i < 0 ∨ vp_in (S 4 i) 110) (hen : ∀ t : Int32, (t < 0 ∨ vp_in t 110) → men S 110 t) : Met l yX2_back wsX2_back ({ frames := 2, cells := 0, slots := 0, locals := 46 }) (q_wP D (xTY kI kJ kL) (mW kI kJ a S G) sz [.ref (a 0), .int l_]) (va_Qi (fun r (u : (Nat → Nat → Int32) × (Nat → Int64)) => r = (ms_back (sU S 16 0 0) l_).1 ∧ u = ((ms_back (sU S 16 0 0) l_).2, G)) (q_wB D (xTY kI kJ kL) (mW kI kJ a S G) sz (fun u : (Nat → Nat → Int32) × (Nat → Int64) => mW kI kJ a u.1 u.2)) (va_A (mW kI kJ a S G) sz)) 0 0 (va_A (mW kI kJ a S G) sz) := by
  refine Met.ofW (cc := cX2_back) (maxL := 7) (ret := (some .int)) (by decide) rfl ?_
  intro p e s m args below meth c s₁ Bd hml hv
  obtain ⟨rfl, hsz, hP, hK, hD0, hN⟩ := hv
  have hx := Bd.exec
  have hb := Bd.bytes
  have hr := Bd.returns
  have hts := atoms_spec (ws := wsX2_back) Bd.pre
  have hown : s.vm.findClass RX2 = some m.cls := findClass_of_methodNamed Bd.named
  have hlocks := Bd.notSynchronized
  subst hsz
  have hD := hD0.self (sz := s.heap.size)
  generalize hAe : va_A (mW kI kJ a S G) s.heap.size = A at hD ⊢
  have hA : ∀ q : Nat, s.heap.size ≤ q → A q := fun q h => by rw [← hAe]; exact Or.inr h
  have hS : va_S A s.heap s.heap [] := va_S.rf
  have hl := lv_entry ([.ref (a 0), .int l_]) (n := 7) (Nat.le_of_ble_eq_true rfl)
  rw [lg_entry_eq]
  generalize (lg_sl ([.ref (a 0), .int l_]) ++ List.replicate (7 - (lg_sl ([.ref (a 0), .int l_])).length) Slot.unset).toArray = ls at hl ⊢
  have hl : lv_has ls 7 [(0, .ref (a 0)), (1, .int l_)] := hl
  have hinX2 : ∀ w ∈ u_ws RX2 TX2 17, w ∈ wsX2_back := by decide +kernel
  refine lv_aload_n hx hb dX2_back_0 rfl (lv_at hl 0 rfl) ?_
  refine lv_iconst (v := 0) hx hb dX2_back_1 (by decide) ?_
  refine va_put (D := D) (ci := 5) (v := .int 0) (ty := .int) (C := RX2) (T := TX2) (N := 17) hx hb hts hinX2 tyX2 tyX2_ok nmX2 hown hK hP hD hS 0 rfl rfl 0 (by decide) (hts (.fieldLink RX2 59 "LoanCasesModel" "fault" "I") (by decide +kernel)) (fun _ h9 => h9) rfl (by decide +kernel) rfl rfl (Nat.le_of_ble_eq_true rfl) dX2_back_2 (fun H locs hP hD hS => ?_)
  have hP : va_P D vwCl (mW kI kJ a (sU S 16 0 0) G) H := hP
  have hD : va_D A (mW kI kJ a (sU S 16 0 0) G) := hD
  obtain ⟨S0, hS0⟩ : ∃ S0, S0 = sU S 16 0 0 := ⟨_, rfl⟩
  rw [← hS0] at hP hD
  have hl7 : S0 7 0 = nI B := by rw [hS0]; exact hl7
  have hw9 : ∀ i, i < 8 → ∃ n : Nat, n ≤ 8 ∧ S0 9 i = nI n := by rw [hS0]; exact hw9
  have hb11 : ∀ i, i < 64 → vp_in (S0 11 i) 110 := by rw [hS0]; exact hb11
  have hv13 : ∀ i, i < 64 → S0 13 i < 0 ∨ vp_in (S0 13 i) 110 := by rw [hS0]; exact hv13
  have hpv : ∀ i, i < 1100 → S0 4 i < 0 ∨ vp_in (S0 4 i) 110 := by rw [hS0]; exact hpv
  have hen : ∀ t : Int32, (t < 0 ∨ vp_in t 110) → men S0 110 t := by rw [hS0]; exact hen
  refine lv_aload_n hx hb dX2_back_5 rfl (lv_at hl 0 rfl) ?_
  refine lv_iload_n hx hb dX2_back_6 rfl (lv_at hl 1 rfl) ?_
  refine vp_callSi (W.runV (As := [.int l_]) (rest := []) ⟨hx, hb, hml, hown, hts⟩ (c_X2_isLoan l D kI kJ kL a S0 G l_) (cwV 1 hts gX2_back_X2_isLoan rfl rfl rfl (by decide +kernel) ⟨Nat.le_of_ble_eq_true rfl, Nat.le_of_ble_eq_true rfl⟩) (q_rV (w2 := []) hK hN (by rw [List.append_nil]; exact hP) (va_recv hK hP (ci := 5) (q0 := 0) rfl rfl)) rfl rfl hl.1 rfl (lv_room (Nat.le_of_ble_eq_true rfl)) dX2_back_7 ⟨Nat.le_of_ble_eq_true rfl, Nat.le_of_ble_eq_true rfl⟩) (fun r_h_1 h_1 => ?_)
  rcases h_1 with ⟨rfl, h_1⟩ | ⟨rfl, h_1⟩
  · refine lv_if_ne (tgt := 15) hx hb dX2_back_10 (by decide) (fun c_2 => ?_) (fun c_2 => absurd c_2 (by decide))
    refine lv_aload_n hx hb dX2_back_15 rfl (lv_at hl 0 rfl) ?_
    refine va_get (D := D) (ci := 5) (v := .ref (a 8)) (C := RX2) (T := TX2) (N := 17) hx hb hts hinX2 hown hK hP 0 rfl rfl 10 (by decide) (hts (.fieldLink RX2 38 "LoanCasesModel" "states" "[I") (by decide +kernel)) (fun _ h9 => h9) rfl dX2_back_16 ?_
    refine lv_iload_n hx hb dX2_back_19 rfl (lv_at hl 1 rfl) ?_
    refine va_iald (f := S0 8) hx hb hK hP 8 0 rfl rfl (mLn_in hl7 hB h_1) dX2_back_20 ?_
    refine lv_if_eq (tgt := 34) hx hb dX2_back_21 (by decide) (fun c_3 => ?_) (fun c_3 => ?_)
    · refine lv_bipush (v := -3) hx hb dX2_back_34 (by decide) ?_
      exact W.iret (v := (-3)) hx hb hr (fun t9 ht hW => ⟨⟨(-3), (S0, G), rfl, (by rw [← hS0]; exact ⟨by simp only [ms_back, cif_t h_1, cif_t c_3, sU_s], by simp only [ms_back, cif_t h_1, cif_t c_3, sU_s]⟩), by rw [ht]; exact hP, va_K.moved hW.alike hK, by rw [hAe]; exact hD⟩, hS.F ht⟩) hS.2.2 dX2_back_36
    · refine lv_aload_n hx hb dX2_back_24 rfl (lv_at hl 0 rfl) ?_
      refine va_get (D := D) (ci := 5) (v := .ref (a 8)) (C := RX2) (T := TX2) (N := 17) hx hb hts hinX2 hown hK hP 0 rfl rfl 10 (by decide) (hts (.fieldLink RX2 38 "LoanCasesModel" "states" "[I") (by decide +kernel)) (fun _ h9 => h9) rfl dX2_back_25 ?_
      refine lv_iload_n hx hb dX2_back_28 rfl (lv_at hl 1 rfl) ?_
      refine va_iald (f := S0 8) hx hb hK hP 8 0 rfl rfl (mLn_in hl7 hB h_1) dX2_back_29 ?_
      refine lv_iconst (v := 3) hx hb dX2_back_30 (by decide) ?_
      refine lv_icmp_ne (tgt := 37) hx hb dX2_back_31 (by decide) (fun c_4 => ?_) (fun c_4 => ?_)
      · have hl8 : vp_in l_ 8 := (mLn_in hl7 hB h_1)
        obtain ⟨n9, hn9, hW⟩ := hw9 _ (vin_lt hl8)
        have hWc : (S0 9 l_.toNatClampNeg).toNatClampNeg = n9 := by rw [hW]; exact nI_clamp (by omega)
        refine lv_iconst (v := 0) hx hb dX2_back_37 (by decide) ?_
        refine lv_istore_n (lv' := [(2, .int 0), (0, .ref (a 0)), (1, .int l_)]) hx hb dX2_back_38 rfl hl (by decide) rfl (fun ls hl => ?_)
        refine lv_bipush (v := -5) hx hb dX2_back_39 (by decide) ?_
        refine lv_istore_n (lv' := [(3, .int (-5)), (2, .int 0), (0, .ref (a 0)), (1, .int l_)]) hx hb dX2_back_41 rfl hl (by decide) rfl (fun ls hl => ?_)
        refine lv_aload_n hx hb dX2_back_42 rfl (lv_at hl 2 rfl) ?_
        refine va_get (D := D) (ci := 5) (v := .ref (a 9)) (C := RX2) (T := TX2) (N := 17) hx hb hts hinX2 hown hK hP 0 rfl rfl 11 (by decide) (hts (.fieldLink RX2 41 "LoanCasesModel" "wants" "[I") (by decide +kernel)) (fun _ h9 => h9) rfl dX2_back_43 ?_
        refine lv_iload_n hx hb dX2_back_46 rfl (lv_at hl 3 rfl) ?_
        refine va_iald (f := S0 9) hx hb hK hP 9 0 rfl rfl hl8 dX2_back_47 ?_
        refine lv_iconst (v := 1) hx hb dX2_back_48 (by decide) ?_
        refine lv_isub hx hb dX2_back_49 ?_
        refine lv_istore (lv' := [(4, .int ((S0 9 l_.toNatClampNeg) - 1)), (3, .int (-5)), (2, .int 0), (0, .ref (a 0)), (1, .int l_)]) hx hb dX2_back_50 hl (by decide) rfl (fun ls hl => ?_)
        have loop52 : ∀ (n52 : Nat) (i : Nat) (x2 x3 : Int32) (Sx : Nat → Nat → Int32), (i + 1 ≤ n52) → (i ≤ n9) → (mbk l_ i x2 x3 Sx = mbk l_ n9 0 (-5) S0) → (Sx 0 = S0 0) → (Sx 9 = S0 9) → (Sx 11 = S0 11) → (∀ i, i < 1100 → mV (Sx 4 i)) → (∀ i, i < 64 → mV (Sx 13 i)) → (∀ t, mV t → men Sx 110 t) → ∀ (H : Heap) (locs : List Loc), va_P D vwCl (mW kI kJ a Sx G) H → va_D A (mW kI kJ a Sx G) → va_S A s.heap H locs → ∀ (ls : Array Slot), lv_has ls 7 [(0, .ref (a 0)), (1, .int l_), (2, .int x2), (3, .int x3), (4, .int (nI i - 1))] → W p l e ({ frames := 2, cells := 0, slots := 0, locals := 46 }) s m ([.ref (a 0), .int l_] : List Value).toArray below meth c H locs 0 0 (MQ below (va_Qi (fun r (u : (Nat → Nat → Int32) × (Nat → Int64)) => r = (ms_back (sU S 16 0 0) l_).1 ∧ u = ((ms_back (sU S 16 0 0) l_).2, G)) (q_wB D (xTY kI kJ kL) (mW kI kJ a S G) s.heap.size (fun u : (Nat → Nat → Int32) × (Nat → Int64) => mW kI kJ a u.1 u.2)) A) ([.ref (a 0), .int l_] : List Value).toArray s 0 0 A) (F0 m 52 ls []) := by
          intro n52
          induction n52 with
          | zero =>
            intro i x2 x3 Sx hf hi hv hx0 hx9 hx11 hpx hvx hex
            exact absurd hf (by omega)
          | succ n52 ih52 =>
            intro i x2 x3 Sx hf hi hv hx0 hx9 hx11 hpx hvx hex H locs hP hD hS ls hl
            refine lv_iload hx hb dX2_back_52 (lv_at hl 4 rfl) ?_
            refine lv_if_lt (tgt := 160) hx hb dX2_back_54 (by decide) (fun c_5 => ?_) (fun c_5 => ?_)
            · have hi2 : i = 0 := by
                rcases i with _ | k
                · rfl
                · rw [nI_pred] at c_5; exact absurd c_5 (nI_pos (by omega))
              rw [hi2, mbk] at hv
              refine lv_aload_n hx hb dX2_back_160 rfl (lv_at hl 0 rfl) ?_
              refine va_get (D := D) (ci := 5) (v := .ref (a 8)) (C := RX2) (T := TX2) (N := 17) hx hb hts hinX2 hown hK hP 0 rfl rfl 10 (by decide) (hts (.fieldLink RX2 38 "LoanCasesModel" "states" "[I") (by decide +kernel)) (fun _ h9 => h9) rfl dX2_back_161 ?_
              refine lv_iload_n hx hb dX2_back_164 rfl (lv_at hl 1 rfl) ?_
              refine lv_iload_n hx hb dX2_back_165 rfl (lv_at hl 3 rfl) ?_
              refine lv_bipush (v := -5) hx hb dX2_back_166 (by decide) ?_
              refine lv_icmp_ne (tgt := 175) hx hb dX2_back_168 (by decide) (fun c_6 => ?_) (fun c_6 => ?_)
              · rw [cif_f c_6] at hv
                refine lv_iconst (v := 1) hx hb dX2_back_175 (by decide) ?_
                refine va_iast hx hb hK hP hD hS 8 0 rfl rfl hl8 dX2_back_176 (fun H locs hP hD hS => ?_)
                have hP : va_P D vwCl (mW kI kJ a (sU Sx 8 l_.toNatClampNeg 1) G) H := hP
                have hD : va_D A (mW kI kJ a (sU Sx 8 l_.toNatClampNeg 1) G) := hD
                obtain ⟨S4, hS4⟩ : ∃ Z, Z = (sU Sx 8 l_.toNatClampNeg 1) := ⟨_, rfl⟩
                rw [← hS4] at hP hD
                rw [← hS4] at hv
                refine lv_aload_n hx hb dX2_back_177 rfl (lv_at hl 0 rfl) ?_
                refine va_get (D := D) (ci := 5) (v := .ref (a 10)) (C := RX2) (T := TX2) (N := 17) hx hb hts hinX2 hown hK hP 0 rfl rfl 12 (by decide) (hts (.fieldLink RX2 44 "LoanCasesModel" "stuckAt" "[I") (by decide +kernel)) (fun _ h9 => h9) rfl dX2_back_178 ?_
                refine lv_iload_n hx hb dX2_back_181 rfl (lv_at hl 1 rfl) ?_
                refine lv_iload_n hx hb dX2_back_182 rfl (lv_at hl 3 rfl) ?_
                refine va_iast hx hb hK hP hD hS 10 0 rfl rfl hl8 dX2_back_183 (fun H locs hP hD hS => ?_)
                have hP : va_P D vwCl (mW kI kJ a (sU S4 10 l_.toNatClampNeg x3) G) H := hP
                have hD : va_D A (mW kI kJ a (sU S4 10 l_.toNatClampNeg x3) G) := hD
                refine lv_iload_n hx hb dX2_back_184 rfl (lv_at hl 2 rfl) ?_
                exact W.iret (v := x2) hx hb hr (fun t9 ht hW => ⟨⟨x2, ((sU S4 10 l_.toNatClampNeg x3), G), rfl, (by rw [← hS0, ms_back, cif_t h_1, cif_f c_3, cif_f c_4, hWc, ← hv]; exact ⟨rfl, rfl⟩), by rw [ht]; exact hP, va_K.moved hW.alike hK, by rw [hAe]; exact hD⟩, hS.F ht⟩) hS.2.2 dX2_back_185
              · rw [cif_t c_6] at hv
                refine lv_iconst (v := 3) hx hb dX2_back_171 (by decide) ?_
                refine lv_goto (tgt := 176) hx hb dX2_back_172 (by decide) ?_
                refine va_iast hx hb hK hP hD hS 8 0 rfl rfl hl8 dX2_back_176 (fun H locs hP hD hS => ?_)
                have hP : va_P D vwCl (mW kI kJ a (sU Sx 8 l_.toNatClampNeg 3) G) H := hP
                have hD : va_D A (mW kI kJ a (sU Sx 8 l_.toNatClampNeg 3) G) := hD
                obtain ⟨S4, hS4⟩ : ∃ Z, Z = (sU Sx 8 l_.toNatClampNeg 3) := ⟨_, rfl⟩
                rw [← hS4] at hP hD
                rw [← hS4] at hv
                refine lv_aload_n hx hb dX2_back_177 rfl (lv_at hl 0 rfl) ?_
                refine va_get (D := D) (ci := 5) (v := .ref (a 10)) (C := RX2) (T := TX2) (N := 17) hx hb hts hinX2 hown hK hP 0 rfl rfl 12 (by decide) (hts (.fieldLink RX2 44 "LoanCasesModel" "stuckAt" "[I") (by decide +kernel)) (fun _ h9 => h9) rfl dX2_back_178 ?_
                refine lv_iload_n hx hb dX2_back_181 rfl (lv_at hl 1 rfl) ?_
                refine lv_iload_n hx hb dX2_back_182 rfl (lv_at hl 3 rfl) ?_
                refine va_iast hx hb hK hP hD hS 10 0 rfl rfl hl8 dX2_back_183 (fun H locs hP hD hS => ?_)
                have hP : va_P D vwCl (mW kI kJ a (sU S4 10 l_.toNatClampNeg x3) G) H := hP
                have hD : va_D A (mW kI kJ a (sU S4 10 l_.toNatClampNeg x3) G) := hD
                refine lv_iload_n hx hb dX2_back_184 rfl (lv_at hl 2 rfl) ?_
                exact W.iret (v := x2) hx hb hr (fun t9 ht hW => ⟨⟨x2, ((sU S4 10 l_.toNatClampNeg x3), G), rfl, (by rw [← hS0, ms_back, cif_t h_1, cif_f c_3, cif_f c_4, hWc, ← hv]; exact ⟨rfl, rfl⟩), by rw [ht]; exact hP, va_K.moved hW.alike hK, by rw [hAe]; exact hD⟩, hS.F ht⟩) hS.2.2 dX2_back_185
            · obtain ⟨k, rfl⟩ : ∃ k, i = k + 1 := by
                rcases i with _ | k
                · exact absurd (by decide) c_5
                · exact ⟨k, rfl⟩
              rw [nI_pred] at hl
              have h64 : vp_in (8 * l_ + nI k) 64 := m8_in hl8 (vp_in_nI (by omega) (by omega))
              have hbx : vp_in (Sx 11 (8 * l_ + nI k).toNatClampNeg) 110 := by rw [hx11]; exact hb11 _ (vin_lt h64)
              have htv := hvx _ (vin_lt h64)
              rw [mbk] at hv
              refine lv_aload_n hx hb dX2_back_57 rfl (lv_at hl 0 rfl) ?_
              refine va_get (D := D) (ci := 5) (v := .ref (a 13)) (C := RX2) (T := TX2) (N := 17) hx hb hts hinX2 hown hK hP 0 rfl rfl 15 (by decide) (hts (.fieldLink RX2 53 "LoanCasesModel" "vans" "[I") (by decide +kernel)) (fun _ h9 => h9) rfl dX2_back_58 ?_
              refine lv_bipush (v := 8) hx hb dX2_back_61 (by decide) ?_
              refine lv_iload_n hx hb dX2_back_63 rfl (lv_at hl 1 rfl) ?_
              refine lv_imul hx hb dX2_back_64 ?_
              refine lv_iload hx hb dX2_back_65 (lv_at hl 4 rfl) ?_
              refine lv_iadd hx hb dX2_back_67 ?_
              refine va_iald (f := Sx 13) hx hb hK hP 13 0 rfl rfl h64 dX2_back_68 ?_
              refine lv_istore (lv' := [(5, .int (Sx 13 ((8 * l_) + (nI k)).toNatClampNeg)), (0, .ref (a 0)), (1, .int l_), (2, .int x2), (3, .int x3), (4, .int (nI k))]) hx hb dX2_back_69 hl (by decide) rfl (fun ls hl => ?_)
              refine lv_iload hx hb dX2_back_71 (lv_at hl 0 rfl) ?_
              refine lv_if_ge (tgt := 79) hx hb dX2_back_73 (by decide) (fun c_7 => ?_) (fun c_7 => ?_)
              · rw [cif_t c_7] at hv
                refine lv_aload_n hx hb dX2_back_79 rfl (lv_at hl 1 rfl) ?_
                refine va_get (D := D) (ci := 5) (v := .ref (a 11)) (C := RX2) (T := TX2) (N := 17) hx hb hts hinX2 hown hK hP 0 rfl rfl 13 (by decide) (hts (.fieldLink RX2 47 "LoanCasesModel" "boxes" "[I") (by decide +kernel)) (fun _ h9 => h9) rfl dX2_back_80 ?_
                refine lv_bipush (v := 8) hx hb dX2_back_83 (by decide) ?_
                refine lv_iload_n hx hb dX2_back_85 rfl (lv_at hl 2 rfl) ?_
                refine lv_imul hx hb dX2_back_86 ?_
                refine lv_iload hx hb dX2_back_87 (lv_at hl 5 rfl) ?_
                refine lv_iadd hx hb dX2_back_89 ?_
                refine va_iald (f := Sx 11) hx hb hK hP 11 0 rfl rfl h64 dX2_back_90 ?_
                refine lv_istore (lv' := [(6, .int (Sx 11 ((8 * l_) + (nI k)).toNatClampNeg)), (5, .int (Sx 13 ((8 * l_) + (nI k)).toNatClampNeg)), (0, .ref (a 0)), (1, .int l_), (2, .int x2), (3, .int x3), (4, .int (nI k))]) hx hb dX2_back_91 hl (by decide) rfl (fun ls hl => ?_)
                refine lv_aload_n hx hb dX2_back_93 rfl (lv_at hl 2 rfl) ?_
                refine lv_iload hx hb dX2_back_94 (lv_at hl 0 rfl) ?_
                refine vp_callSi (W.runV (As := [.int (Sx 11 ((8 * l_) + (nI k)).toNatClampNeg)]) (rest := []) ⟨hx, hb, hml, hown, hts⟩ (c_X2_heldBy l D kI kJ kL a Sx G (Sx 11 ((8 * l_) + (nI k)).toNatClampNeg) hbx) (cwV 1 hts gX2_back_X2_heldBy rfl rfl rfl (by decide +kernel) ⟨Nat.le_of_ble_eq_true rfl, Nat.le_of_ble_eq_true rfl⟩) (q_rV (w2 := []) hK hN (by rw [List.append_nil]; exact hP) (va_recv hK hP (ci := 5) (q0 := 0) rfl rfl)) rfl rfl hl.1 rfl (lv_room (Nat.le_of_ble_eq_true rfl)) dX2_back_96 ⟨Nat.le_of_ble_eq_true rfl, Nat.le_of_ble_eq_true rfl⟩) (fun r_9 h_8 => ?_)
                subst h_8
                refine lv_if_ge (tgt := 151) hx hb dX2_back_99 (by decide) (fun c_10 => ?_) (fun c_10 => ?_)
                · rw [cif_t c_10] at hv
                  refine lv_iload hx hb dX2_back_151 (lv_at hl 6 rfl) ?_
                  refine lv_istore_n (lv' := [(3, .int (nI k)), (6, .int (Sx 11 ((8 * l_) + (nI k)).toNatClampNeg)), (5, .int (Sx 13 ((8 * l_) + (nI k)).toNatClampNeg)), (0, .ref (a 0)), (1, .int l_), (2, .int x2), (4, .int (nI k))]) hx hb dX2_back_153 rfl hl (by decide) rfl (fun ls hl => ?_)
                  obtain ⟨x_11, ex_11⟩ : ∃ y : Int32, y = (nI k) + (-1) := ⟨_, rfl⟩
                  refine lv_iinc (v := x_11) (lv' := [(4, .int x_11), (3, .int (nI k)), (6, .int (Sx 11 ((8 * l_) + (nI k)).toNatClampNeg)), (5, .int (Sx 13 ((8 * l_) + (nI k)).toNatClampNeg)), (0, .ref (a 0)), (1, .int l_), (2, .int x2)]) hx hb dX2_back_154 hl (k := 6) rfl (by rw [ex_11]; rfl) (by decide) rfl (fun ls hl => ?_)
                  refine lv_goto (tgt := 52) hx hb dX2_back_157 (by decide) ?_
                  rw [show x_11 = nI k - 1 from (ex_11).trans (nI_m1 k)] at hl
                  exact ih52 k x2 (nI k) Sx (by omega) (by omega) hv hx0 hx9 hx11 hpx hvx hex H locs hP hD hS ls (lv_sub hl [4, 5, 6, 1, 0] rfl)
                · rw [cif_f c_10] at hv
                  refine lv_iload hx hb dX2_back_102 (lv_at hl 1 rfl) ?_
                  refine lv_iload hx hb dX2_back_104 (lv_at hl 0 rfl) ?_
                  refine lv_icmp_eq (tgt := 151) hx hb dX2_back_106 (by decide) (fun c_12 => ?_) (fun c_12 => ?_)
                  · rw [cif_t c_12] at hv
                    refine lv_iload hx hb dX2_back_151 (lv_at hl 6 rfl) ?_
                    refine lv_istore_n (lv' := [(3, .int (nI k)), (6, .int (Sx 11 ((8 * l_) + (nI k)).toNatClampNeg)), (5, .int (Sx 13 ((8 * l_) + (nI k)).toNatClampNeg)), (0, .ref (a 0)), (1, .int l_), (2, .int x2), (4, .int (nI k))]) hx hb dX2_back_153 rfl hl (by decide) rfl (fun ls hl => ?_)
                    obtain ⟨x_13, ex_13⟩ : ∃ y : Int32, y = (nI k) + (-1) := ⟨_, rfl⟩
                    refine lv_iinc (v := x_13) (lv' := [(4, .int x_13), (3, .int (nI k)), (6, .int (Sx 11 ((8 * l_) + (nI k)).toNatClampNeg)), (5, .int (Sx 13 ((8 * l_) + (nI k)).toNatClampNeg)), (0, .ref (a 0)), (1, .int l_), (2, .int x2)]) hx hb dX2_back_154 hl (k := 6) rfl (by rw [ex_13]; rfl) (by decide) rfl (fun ls hl => ?_)
                    refine lv_goto (tgt := 52) hx hb dX2_back_157 (by decide) ?_
                    rw [show x_13 = nI k - 1 from (ex_13).trans (nI_m1 k)] at hl
                    exact ih52 k x2 (nI k) Sx (by omega) (by omega) hv hx0 hx9 hx11 hpx hvx hex H locs hP hD hS ls (lv_sub hl [4, 5, 6, 1, 0] rfl)
                  · rw [cif_f c_12] at hv
                    refine lv_aload_n hx hb dX2_back_109 rfl (lv_at hl 2 rfl) ?_
                    refine lv_iload hx hb dX2_back_110 (lv_at hl 0 rfl) ?_
                    refine lv_iload hx hb dX2_back_112 (lv_at hl 1 rfl) ?_
                    refine vp_callSi (W.runV (As := [.int (Sx 11 ((8 * l_) + (nI k)).toNatClampNeg), .int (Sx 13 ((8 * l_) + (nI k)).toNatClampNeg)]) (rest := []) ⟨hx, hb, hml, hown, hts⟩ (c_X2_isWithin l D kI kJ kL a Sx G (Sx 11 ((8 * l_) + (nI k)).toNatClampNeg) (Sx 13 ((8 * l_) + (nI k)).toNatClampNeg) htv hpx (hex _ htv)) (cwV 2 hts gX2_back_X2_isWithin rfl rfl rfl (by decide +kernel) ⟨Nat.le_of_ble_eq_true rfl, Nat.le_of_ble_eq_true rfl⟩) (q_rV (w2 := []) hK hN (by rw [List.append_nil]; exact hP) (va_recv hK hP (ci := 5) (q0 := 0) rfl rfl)) rfl rfl hl.1 rfl (lv_room (Nat.le_of_ble_eq_true rfl)) dX2_back_114 ⟨Nat.le_of_ble_eq_true rfl, Nat.le_of_ble_eq_true rfl⟩) (fun r_h_14 h_14 => ?_)
                    rcases h_14 with ⟨rfl, h_14⟩ | ⟨rfl, h_14⟩
                    · rw [cif_t h_14] at hv
                      refine lv_if_ne (tgt := 151) hx hb dX2_back_117 (by decide) (fun c_15 => ?_) (fun c_15 => absurd c_15 (by decide))
                      refine lv_iload hx hb dX2_back_151 (lv_at hl 6 rfl) ?_
                      refine lv_istore_n (lv' := [(3, .int (nI k)), (6, .int (Sx 11 ((8 * l_) + (nI k)).toNatClampNeg)), (5, .int (Sx 13 ((8 * l_) + (nI k)).toNatClampNeg)), (0, .ref (a 0)), (1, .int l_), (2, .int x2), (4, .int (nI k))]) hx hb dX2_back_153 rfl hl (by decide) rfl (fun ls hl => ?_)
                      obtain ⟨x_16, ex_16⟩ : ∃ y : Int32, y = (nI k) + (-1) := ⟨_, rfl⟩
                      refine lv_iinc (v := x_16) (lv' := [(4, .int x_16), (3, .int (nI k)), (6, .int (Sx 11 ((8 * l_) + (nI k)).toNatClampNeg)), (5, .int (Sx 13 ((8 * l_) + (nI k)).toNatClampNeg)), (0, .ref (a 0)), (1, .int l_), (2, .int x2)]) hx hb dX2_back_154 hl (k := 6) rfl (by rw [ex_16]; rfl) (by decide) rfl (fun ls hl => ?_)
                      refine lv_goto (tgt := 52) hx hb dX2_back_157 (by decide) ?_
                      rw [show x_16 = nI k - 1 from (ex_16).trans (nI_m1 k)] at hl
                      exact ih52 k x2 (nI k) Sx (by omega) (by omega) hv hx0 hx9 hx11 hpx hvx hex H locs hP hD hS ls (lv_sub hl [4, 5, 6, 1, 0] rfl)
                    · rw [cif_f h_14] at hv
                      refine lv_if_ne (tgt := 151) hx hb dX2_back_117 (by decide) (fun c_17 => absurd c_17 (by decide)) (fun c_17 => ?_)
                      refine lv_aload_n hx hb dX2_back_120 rfl (lv_at hl 2 rfl) ?_
                      refine va_get (D := D) (ci := 5) (v := .ref (a 5)) (C := RX2) (T := TX2) (N := 17) hx hb hts hinX2 hown hK hP 0 rfl rfl 6 (by decide) (hts (.fieldLink RX2 23 "LoanCasesModel" "places" "[I") (by decide +kernel)) (fun _ h9 => h9) rfl dX2_back_121 ?_
                      refine lv_bipush (v := 10) hx hb dX2_back_124 (by decide) ?_
                      refine lv_iload hx hb dX2_back_126 (lv_at hl 0 rfl) ?_
                      refine lv_imul hx hb dX2_back_128 ?_
                      refine lv_iload hx hb dX2_back_129 (lv_at hl 1 rfl) ?_
                      refine va_iast hx hb hK hP hD hS 5 0 rfl rfl (m10_in hbx) dX2_back_131 (fun H locs hP hD hS => ?_)
                      have hP : va_P D vwCl (mW kI kJ a (sU Sx 4 ((10 * (Sx 11 ((8 * l_) + (nI k)).toNatClampNeg)).toNatClampNeg) (Sx 13 ((8 * l_) + (nI k)).toNatClampNeg)) G) H := hP
                      have hD : va_D A (mW kI kJ a (sU Sx 4 ((10 * (Sx 11 ((8 * l_) + (nI k)).toNatClampNeg)).toNatClampNeg) (Sx 13 ((8 * l_) + (nI k)).toNatClampNeg)) G) := hD
                      obtain ⟨S1, hS1⟩ : ∃ Z, Z = (sU Sx 4 ((10 * (Sx 11 ((8 * l_) + (nI k)).toNatClampNeg)).toNatClampNeg) (Sx 13 ((8 * l_) + (nI k)).toNatClampNeg)) := ⟨_, rfl⟩
                      rw [← hS1] at hP hD
                      rw [← hS1] at hv
                      refine lv_aload_n hx hb dX2_back_132 rfl (lv_at hl 2 rfl) ?_
                      refine va_get (D := D) (ci := 5) (v := .ref (a 13)) (C := RX2) (T := TX2) (N := 17) hx hb hts hinX2 hown hK hP 0 rfl rfl 15 (by decide) (hts (.fieldLink RX2 53 "LoanCasesModel" "vans" "[I") (by decide +kernel)) (fun _ h9 => h9) rfl dX2_back_133 ?_
                      refine lv_bipush (v := 8) hx hb dX2_back_136 (by decide) ?_
                      refine lv_iload_n hx hb dX2_back_138 rfl (lv_at hl 3 rfl) ?_
                      refine lv_imul hx hb dX2_back_139 ?_
                      refine lv_iload hx hb dX2_back_140 (lv_at hl 6 rfl) ?_
                      refine lv_iadd hx hb dX2_back_142 ?_
                      refine lv_iconst (v := -1) hx hb dX2_back_143 (by decide) ?_
                      refine va_iast hx hb hK hP hD hS 13 0 rfl rfl h64 dX2_back_144 (fun H locs hP hD hS => ?_)
                      have hP : va_P D vwCl (mW kI kJ a (sU S1 13 (((8 * l_) + (nI k)).toNatClampNeg) (-1)) G) H := hP
                      have hD : va_D A (mW kI kJ a (sU S1 13 (((8 * l_) + (nI k)).toNatClampNeg) (-1)) G) := hD
                      obtain ⟨x_18, ex_18⟩ : ∃ y : Int32, y = x2 + (1) := ⟨_, rfl⟩
                      refine lv_iinc (v := x_18) (lv' := [(2, .int x_18), (6, .int (Sx 11 ((8 * l_) + (nI k)).toNatClampNeg)), (5, .int (Sx 13 ((8 * l_) + (nI k)).toNatClampNeg)), (0, .ref (a 0)), (1, .int l_), (3, .int x3), (4, .int (nI k))]) hx hb dX2_back_145 hl (k := 4) rfl (by rw [ex_18]; rfl) (by decide) rfl (fun ls hl => ?_)
                      refine lv_goto (tgt := 154) hx hb dX2_back_148 (by decide) ?_
                      obtain ⟨x_19, ex_19⟩ : ∃ y : Int32, y = (nI k) + (-1) := ⟨_, rfl⟩
                      refine lv_iinc (v := x_19) (lv' := [(4, .int x_19), (2, .int x_18), (6, .int (Sx 11 ((8 * l_) + (nI k)).toNatClampNeg)), (5, .int (Sx 13 ((8 * l_) + (nI k)).toNatClampNeg)), (0, .ref (a 0)), (1, .int l_), (3, .int x3)]) hx hb dX2_back_154 hl (k := 6) rfl (by rw [ex_19]; rfl) (by decide) rfl (fun ls hl => ?_)
                      refine lv_goto (tgt := 52) hx hb dX2_back_157 (by decide) ?_
                      rw [show x_19 = nI k - 1 from (ex_19).trans (nI_m1 k)] at hl
                      have hq : S1 0 = Sx 0 ∧ S1 9 = Sx 9 ∧ S1 11 = Sx 11 ∧ S1 13 = Sx 13 := by rw [hS1]; exact ⟨rfl, rfl, rfl, rfl⟩
                      have hpx1 : ∀ i, i < 1100 → mV (S1 4 i) := by rw [hS1]; exact pv_put hpx htv
                      have hex1 : ∀ t, mV t → men S1 110 t := by rw [hS1]; exact men_put hpx hex hbx htv c_12 h_14
                      exact ih52 k x_18 x3 (sU S1 13 (((8 * l_) + (nI k)).toNatClampNeg) (-1)) (by omega) (by omega) (by rw [ex_18]; exact hv) (hq.1.trans hx0) (hq.2.1.trans hx9) (hq.2.2.1.trans hx11) hpx1 (v13_put (by rw [hq.2.2.2]; exact hvx) (Or.inl (by decide))) (men_oth (by decide) (by decide) hex1) H locs hP hD hS ls (lv_sub hl [4, 5, 1, 6, 0] rfl)
              · rw [cif_f c_7] at hv
                refine lv_goto (tgt := 154) hx hb dX2_back_76 (by decide) ?_
                obtain ⟨x_20, ex_20⟩ : ∃ y : Int32, y = (nI k) + (-1) := ⟨_, rfl⟩
                refine lv_iinc (v := x_20) (lv' := [(4, .int x_20), (5, .int (Sx 13 ((8 * l_) + (nI k)).toNatClampNeg)), (0, .ref (a 0)), (1, .int l_), (2, .int x2), (3, .int x3)]) hx hb dX2_back_154 hl (k := 5) rfl (by rw [ex_20]; rfl) (by decide) rfl (fun ls hl => ?_)
                refine lv_goto (tgt := 52) hx hb dX2_back_157 (by decide) ?_
                rw [show x_20 = nI k - 1 from (ex_20).trans (nI_m1 k)] at hl
                exact ih52 k x2 x3 Sx (by omega) (by omega) hv hx0 hx9 hx11 hpx hvx hex H locs hP hD hS ls (lv_sub hl [2, 3, 4, 5, 0] rfl)
        rw [show ((S0 9 l_.toNatClampNeg) - 1) = nI n9 - 1 by rw [hW]] at hl
        exact loop52 (n9 + 1) n9 0 (-5) S0 (by omega) (by omega) rfl rfl rfl rfl hpv hv13 hen H locs hP hD hS ls (lv_sub hl [3, 4, 2, 1, 0] rfl)
      · refine lv_bipush (v := -3) hx hb dX2_back_34 (by decide) ?_
        exact W.iret (v := (-3)) hx hb hr (fun t9 ht hW => ⟨⟨(-3), (S0, G), rfl, (by rw [← hS0]; exact ⟨by simp only [ms_back, cif_t h_1, cif_f c_3, cif_t c_4, sU_s], by simp only [ms_back, cif_t h_1, cif_f c_3, cif_t c_4, sU_s]⟩), by rw [ht]; exact hP, va_K.moved hW.alike hK, by rw [hAe]; exact hD⟩, hS.F ht⟩) hS.2.2 dX2_back_36
  · refine lv_if_ne (tgt := 15) hx hb dX2_back_10 (by decide) (fun c_21 => absurd c_21 (by decide)) (fun c_21 => ?_)
    refine lv_iconst (v := -1) hx hb dX2_back_13 (by decide) ?_
    exact W.iret (v := (-1)) hx hb hr (fun t9 ht hW => ⟨⟨(-1), (S0, G), rfl, (by rw [← hS0]; exact ⟨by simp only [ms_back, cif_f h_1, sU_s], by simp only [ms_back, cif_f h_1, sU_s]⟩), by rw [ht]; exact hP, va_K.moved hW.alike hK, by rw [hAe]; exact hD⟩, hS.F ht⟩) hS.2.2 dX2_back_14
