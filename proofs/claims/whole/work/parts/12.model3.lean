set_option maxHeartbeats 4000000 in
set_option maxRecDepth 100000 in
theorem c_X2_want (l : Launch) (D : va_G) (kI kJ kL : ClassId) (a : Nat → Nat) (S : Nat → Nat → Int32) (G : Nat → Int64) (sz : Nat) (l_ : Int32) (b : Int32) (k : Int32) (n : Nat) (hn6 : S 6 0 = nI n) (hn : n ≤ 110) (B : Nat) (hl7 : S 7 0 = nI B) (hB : B ≤ 8) (hw9 : ∀ i, i < 8 → ∃ n : Nat, n ≤ 8 ∧ S 9 i = nI n) : Met l yX2_want wsX2_want ({ frames := 3, cells := 0, slots := 0, locals := 67 }) (q_wP D (xTY kI kJ kL) (mW kI kJ a S G) sz [.ref (a 0), .int l_, .int b, .int k]) (va_Qi (fun r (u : (Nat → Nat → Int32) × (Nat → Int64)) => r = (ms_want (sU S 16 0 0) l_ b k).1 ∧ u = ((ms_want (sU S 16 0 0) l_ b k).2, G)) (q_wB D (xTY kI kJ kL) (mW kI kJ a S G) sz (fun u : (Nat → Nat → Int32) × (Nat → Int64) => mW kI kJ a u.1 u.2)) (va_A (mW kI kJ a S G) sz)) 0 0 (va_A (mW kI kJ a S G) sz) := by
  refine Met.ofW (cc := cX2_want) (maxL := 5) (ret := (some .int)) (by decide) rfl ?_
  intro p e s m args below meth c s₁ Bd hml hv
  obtain ⟨rfl, hsz, hP, hK, hD0, hN⟩ := hv
  have hx := Bd.exec
  have hb := Bd.bytes
  have hr := Bd.returns
  have hts := atoms_spec (ws := wsX2_want) Bd.pre
  have hown : s.vm.findClass RX2 = some m.cls := findClass_of_methodNamed Bd.named
  have hlocks := Bd.notSynchronized
  subst hsz
  have hD := hD0.self (sz := s.heap.size)
  generalize hAe : va_A (mW kI kJ a S G) s.heap.size = A at hD ⊢
  have hA : ∀ q : Nat, s.heap.size ≤ q → A q := fun q h => by rw [← hAe]; exact Or.inr h
  have hS : va_S A s.heap s.heap [] := va_S.rf
  have hl := lv_entry ([.ref (a 0), .int l_, .int b, .int k]) (n := 5) (Nat.le_of_ble_eq_true rfl)
  rw [lg_entry_eq]
  generalize (lg_sl ([.ref (a 0), .int l_, .int b, .int k]) ++ List.replicate (5 - (lg_sl ([.ref (a 0), .int l_, .int b, .int k])).length) Slot.unset).toArray = ls at hl ⊢
  have hl : lv_has ls 5 [(0, .ref (a 0)), (1, .int l_), (2, .int b), (3, .int k)] := hl
  have hinX2 : ∀ w ∈ u_ws RX2 TX2 17, w ∈ wsX2_want := by decide +kernel
  refine lv_aload_n hx hb dX2_want_0 rfl (lv_at hl 0 rfl) ?_
  refine lv_iconst (v := 0) hx hb dX2_want_1 (by decide) ?_
  refine va_put (D := D) (ci := 5) (v := .int 0) (ty := .int) (C := RX2) (T := TX2) (N := 17) hx hb hts hinX2 tyX2 tyX2_ok nmX2 hown hK hP hD hS 0 rfl rfl 0 (by decide) (hts (.fieldLink RX2 59 "LoanCasesModel" "fault" "I") (by decide +kernel)) (fun _ h9 => h9) rfl (by decide +kernel) rfl rfl (Nat.le_of_ble_eq_true rfl) dX2_want_2 (fun H locs hP hD hS => ?_)
  have hP : va_P D vwCl (mW kI kJ a (sU S 16 0 0) G) H := hP
  have hD : va_D A (mW kI kJ a (sU S 16 0 0) G) := hD
  obtain ⟨S0, hS0⟩ : ∃ S0, S0 = sU S 16 0 0 := ⟨_, rfl⟩
  rw [← hS0] at hP hD
  have hn6 : S0 6 0 = nI n := by rw [hS0]; exact hn6
  have hl7 : S0 7 0 = nI B := by rw [hS0]; exact hl7
  have hw9 : ∀ i, i < 8 → ∃ n : Nat, n ≤ 8 ∧ S0 9 i = nI n := by rw [hS0]; exact hw9
  refine lv_aload_n hx hb dX2_want_5 rfl (lv_at hl 0 rfl) ?_
  refine lv_iload_n hx hb dX2_want_6 rfl (lv_at hl 1 rfl) ?_
  refine vp_callSi (W.runV (As := [.int l_]) (rest := []) ⟨hx, hb, hml, hown, hts⟩ (c_X2_isLoan l D kI kJ kL a S0 G l_) (cwV 1 hts gX2_want_X2_isLoan rfl rfl rfl (by decide +kernel) ⟨Nat.le_of_ble_eq_true rfl, Nat.le_of_ble_eq_true rfl⟩) (q_rV (w2 := []) hK hN (by rw [List.append_nil]; exact hP) (va_recv hK hP (ci := 5) (q0 := 0) rfl rfl)) rfl rfl hl.1 rfl (lv_room (Nat.le_of_ble_eq_true rfl)) dX2_want_7 ⟨Nat.le_of_ble_eq_true rfl, Nat.le_of_ble_eq_true rfl⟩) (fun r_h_1 h_1 => ?_)
  rcases h_1 with ⟨rfl, h_1⟩ | ⟨rfl, h_1⟩
  · refine lv_if_eq (tgt := 21) hx hb dX2_want_10 (by decide) (fun c_2 => absurd c_2 (by decide)) (fun c_2 => ?_)
    refine lv_aload_n hx hb dX2_want_13 rfl (lv_at hl 0 rfl) ?_
    refine lv_iload_n hx hb dX2_want_14 rfl (lv_at hl 2 rfl) ?_
    refine vp_callSi (W.runV (As := [.int b]) (rest := []) ⟨hx, hb, hml, hown, hts⟩ (c_X2_isCase l D kI kJ kL a S0 G b n hn6 hn) (cwV 1 hts gX2_want_X2_isCase rfl rfl rfl (by decide +kernel) ⟨Nat.le_of_ble_eq_true rfl, Nat.le_of_ble_eq_true rfl⟩) (q_rV (w2 := []) hK hN (by rw [List.append_nil]; exact hP) (va_recv hK hP (ci := 5) (q0 := 0) rfl rfl)) rfl rfl hl.1 rfl (lv_room (Nat.le_of_ble_eq_true rfl)) dX2_want_15 ⟨Nat.le_of_ble_eq_true rfl, Nat.le_of_ble_eq_true rfl⟩) (fun r_h_3 h_3 => ?_)
    rcases h_3 with ⟨rfl, h_3⟩ | ⟨rfl, h_3⟩
    · refine lv_if_ne (tgt := 23) hx hb dX2_want_18 (by decide) (fun c_4 => ?_) (fun c_4 => absurd c_4 (by decide))
      refine lv_iload_n hx hb dX2_want_23 rfl (lv_at hl 3 rfl) ?_
      refine lv_i2l hx hb dX2_want_24 rfl ?_
      refine lv_lconst (v := 0) hx hb dX2_want_25 (by decide) ?_
      refine lv_ldc2 hx hb hown (hts (.constantLong RX2 93 (20)) (by decide +kernel)) dX2_want_26 ?_
      refine vp_callSi (W.runS (As := [.long (k.toInt64), .long 0, .long 20]) (rest := []) ⟨hx, hb, hml, hown, hts⟩ (c_X2_in l D kI kJ kL (k.toInt64) 0 20) (va_cwS 3 hts gX2_want_X2_in rfl rfl rfl (by decide +kernel) ⟨Nat.le_of_ble_eq_true rfl, Nat.le_of_ble_eq_true rfl⟩) (q_rS0 hK hN) rfl rfl hl.1 rfl (lv_room (Nat.le_of_ble_eq_true rfl)) dX2_want_29 ⟨Nat.le_of_ble_eq_true rfl, Nat.le_of_ble_eq_true rfl⟩) (fun r_h_5 h_5 => ?_)
      rcases h_5 with ⟨rfl, h_5⟩ | ⟨rfl, h_5⟩
      · refine lv_if_ne (tgt := 38) hx hb dX2_want_32 (by decide) (fun c_6 => ?_) (fun c_6 => absurd c_6 (by decide))
        refine lv_aload_n hx hb dX2_want_38 rfl (lv_at hl 0 rfl) ?_
        refine va_get (D := D) (ci := 5) (v := .ref (a 8)) (C := RX2) (T := TX2) (N := 17) hx hb hts hinX2 hown hK hP 0 rfl rfl 10 (by decide) (hts (.fieldLink RX2 38 "LoanCasesModel" "states" "[I") (by decide +kernel)) (fun _ h9 => h9) rfl dX2_want_39 ?_
        refine lv_iload_n hx hb dX2_want_42 rfl (lv_at hl 1 rfl) ?_
        refine va_iald (f := S0 8) hx hb hK hP 8 0 rfl rfl (mLn_in hl7 hB h_1) dX2_want_43 ?_
        refine lv_if_eq (tgt := 50) hx hb dX2_want_44 (by decide) (fun c_7 => ?_) (fun c_7 => ?_)
        · refine lv_aload_n hx hb dX2_want_50 rfl (lv_at hl 0 rfl) ?_
          refine va_get (D := D) (ci := 5) (v := .ref (a 9)) (C := RX2) (T := TX2) (N := 17) hx hb hts hinX2 hown hK hP 0 rfl rfl 11 (by decide) (hts (.fieldLink RX2 41 "LoanCasesModel" "wants" "[I") (by decide +kernel)) (fun _ h9 => h9) rfl dX2_want_51 ?_
          refine lv_iload_n hx hb dX2_want_54 rfl (lv_at hl 1 rfl) ?_
          refine va_iald (f := S0 9) hx hb hK hP 9 0 rfl rfl (mLn_in hl7 hB h_1) dX2_want_55 ?_
          refine lv_bipush (v := 8) hx hb dX2_want_56 (by decide) ?_
          refine lv_icmp_ne (tgt := 64) hx hb dX2_want_58 (by decide) (fun c_8 => ?_) (fun c_8 => ?_)
          · have h64 : vp_in (8 * l_ + S0 9 l_.toNatClampNeg) 64 := by
              obtain ⟨n9, hn9, e9⟩ := hw9 _ (vin_lt (mLn_in hl7 hB h_1))
              have hlt : n9 < 8 := by
                rcases Nat.lt_or_ge n9 8 with q | q
                · exact q
                · exact absurd (e9.trans (congrArg nI (show n9 = 8 by omega))) c_8
              exact m8_in (mLn_in hl7 hB h_1) (by rw [e9]; exact vp_in_nI hlt (by omega))
            refine lv_bipush (v := 8) hx hb dX2_want_64 (by decide) ?_
            refine lv_iload_n hx hb dX2_want_66 rfl (lv_at hl 1 rfl) ?_
            refine lv_imul hx hb dX2_want_67 ?_
            refine lv_aload_n hx hb dX2_want_68 rfl (lv_at hl 0 rfl) ?_
            refine va_get (D := D) (ci := 5) (v := .ref (a 9)) (C := RX2) (T := TX2) (N := 17) hx hb hts hinX2 hown hK hP 0 rfl rfl 11 (by decide) (hts (.fieldLink RX2 41 "LoanCasesModel" "wants" "[I") (by decide +kernel)) (fun _ h9 => h9) rfl dX2_want_69 ?_
            refine lv_iload_n hx hb dX2_want_72 rfl (lv_at hl 1 rfl) ?_
            refine va_iald (f := S0 9) hx hb hK hP 9 0 rfl rfl (mLn_in hl7 hB h_1) dX2_want_73 ?_
            refine lv_iadd hx hb dX2_want_74 ?_
            refine lv_topi (fun x_9 ex_9 => ?_)
            refine lv_istore (lv' := [(4, .int x_9), (0, .ref (a 0)), (1, .int l_), (2, .int b), (3, .int k)]) hx hb dX2_want_75 hl (by decide) rfl (fun ls hl => ?_)
            refine lv_aload_n hx hb dX2_want_77 rfl (lv_at hl 1 rfl) ?_
            refine va_get (D := D) (ci := 5) (v := .ref (a 11)) (C := RX2) (T := TX2) (N := 17) hx hb hts hinX2 hown hK hP 0 rfl rfl 13 (by decide) (hts (.fieldLink RX2 47 "LoanCasesModel" "boxes" "[I") (by decide +kernel)) (fun _ h9 => h9) rfl dX2_want_78 ?_
            refine lv_iload hx hb dX2_want_81 (lv_at hl 0 rfl) ?_
            refine lv_iload_n hx hb dX2_want_83 rfl (lv_at hl 3 rfl) ?_
            refine va_iast hx hb hK hP hD hS 11 0 rfl rfl (by rw [ex_9]; exact h64) dX2_want_84 (fun H locs hP hD hS => ?_)
            have hP : va_P D vwCl (mW kI kJ a (sU S0 11 x_9.toNatClampNeg b) G) H := hP
            have hD : va_D A (mW kI kJ a (sU S0 11 x_9.toNatClampNeg b) G) := hD
            refine lv_aload_n hx hb dX2_want_85 rfl (lv_at hl 1 rfl) ?_
            refine va_get (D := D) (ci := 5) (v := .ref (a 12)) (C := RX2) (T := TX2) (N := 17) hx hb hts hinX2 hown hK hP 0 rfl rfl 14 (by decide) (hts (.fieldLink RX2 50 "LoanCasesModel" "kinds" "[I") (by decide +kernel)) (fun _ h9 => h9) rfl dX2_want_86 ?_
            refine lv_iload hx hb dX2_want_89 (lv_at hl 0 rfl) ?_
            refine lv_iload_n hx hb dX2_want_91 rfl (lv_at hl 4 rfl) ?_
            refine va_iast hx hb hK hP hD hS 12 0 rfl rfl (by rw [ex_9]; exact h64) dX2_want_92 (fun H locs hP hD hS => ?_)
            have hP : va_P D vwCl (mW kI kJ a (sU (sU S0 11 x_9.toNatClampNeg b) 12 x_9.toNatClampNeg k) G) H := hP
            have hD : va_D A (mW kI kJ a (sU (sU S0 11 x_9.toNatClampNeg b) 12 x_9.toNatClampNeg k) G) := hD
            refine lv_aload_n hx hb dX2_want_93 rfl (lv_at hl 1 rfl) ?_
            refine va_get (D := D) (ci := 5) (v := .ref (a 13)) (C := RX2) (T := TX2) (N := 17) hx hb hts hinX2 hown hK hP 0 rfl rfl 15 (by decide) (hts (.fieldLink RX2 53 "LoanCasesModel" "vans" "[I") (by decide +kernel)) (fun _ h9 => h9) rfl dX2_want_94 ?_
            refine lv_iload hx hb dX2_want_97 (lv_at hl 0 rfl) ?_
            refine lv_iconst (v := -1) hx hb dX2_want_99 (by decide) ?_
            refine va_iast hx hb hK hP hD hS 13 0 rfl rfl (by rw [ex_9]; exact h64) dX2_want_100 (fun H locs hP hD hS => ?_)
            have hP : va_P D vwCl (mW kI kJ a (sU (sU (sU S0 11 x_9.toNatClampNeg b) 12 x_9.toNatClampNeg k) 13 x_9.toNatClampNeg (-1)) G) H := hP
            have hD : va_D A (mW kI kJ a (sU (sU (sU S0 11 x_9.toNatClampNeg b) 12 x_9.toNatClampNeg k) 13 x_9.toNatClampNeg (-1)) G) := hD
            obtain ⟨S3, hS3⟩ : ∃ Z, Z = (sU (sU (sU S0 11 x_9.toNatClampNeg b) 12 x_9.toNatClampNeg k) 13 x_9.toNatClampNeg (-1)) := ⟨_, rfl⟩
            rw [← hS3] at hP hD
            have h39 : S3 9 = S0 9 := by rw [hS3]; rfl
            refine lv_aload_n hx hb dX2_want_101 rfl (lv_at hl 1 rfl) ?_
            refine va_get (D := D) (ci := 5) (v := .ref (a 9)) (C := RX2) (T := TX2) (N := 17) hx hb hts hinX2 hown hK hP 0 rfl rfl 11 (by decide) (hts (.fieldLink RX2 41 "LoanCasesModel" "wants" "[I") (by decide +kernel)) (fun _ h9 => h9) rfl dX2_want_102 ?_
            refine lv_iload_n hx hb dX2_want_105 rfl (lv_at hl 2 rfl) ?_
            refine lv_dup2_11 hx hb dX2_want_106 rfl rfl ?_
            refine va_iald (f := S3 9) hx hb hK hP 9 0 rfl rfl (mLn_in hl7 hB h_1) dX2_want_107 ?_
            refine lv_iconst (v := 1) hx hb dX2_want_108 (by decide) ?_
            refine lv_iadd hx hb dX2_want_109 ?_
            refine va_iast hx hb hK hP hD hS 9 0 rfl rfl (mLn_in hl7 hB h_1) dX2_want_110 (fun H locs hP hD hS => ?_)
            have hP : va_P D vwCl (mW kI kJ a (sU S3 9 l_.toNatClampNeg ((S3 9 l_.toNatClampNeg) + 1)) G) H := hP
            have hD : va_D A (mW kI kJ a (sU S3 9 l_.toNatClampNeg ((S3 9 l_.toNatClampNeg) + 1)) G) := hD
            refine lv_aload_n hx hb dX2_want_111 rfl (lv_at hl 1 rfl) ?_
            refine va_get (D := D) (ci := 5) (v := .ref (a 9)) (C := RX2) (T := TX2) (N := 17) hx hb hts hinX2 hown hK hP 0 rfl rfl 11 (by decide) (hts (.fieldLink RX2 41 "LoanCasesModel" "wants" "[I") (by decide +kernel)) (fun _ h9 => h9) rfl dX2_want_112 ?_
            refine lv_iload_n hx hb dX2_want_115 rfl (lv_at hl 2 rfl) ?_
            refine va_iald (f := (sU S3 9 l_.toNatClampNeg ((S3 9 l_.toNatClampNeg) + 1)) 9) hx hb hK hP 9 0 rfl rfl (mLn_in hl7 hB h_1) dX2_want_116 ?_
            exact W.iret (v := ((sU S3 9 l_.toNatClampNeg ((S3 9 l_.toNatClampNeg) + 1)) 9 l_.toNatClampNeg)) hx hb hr (fun t9 ht hW => ⟨⟨((sU S3 9 l_.toNatClampNeg ((S3 9 l_.toNatClampNeg) + 1)) 9 l_.toNatClampNeg), ((sU S3 9 l_.toNatClampNeg ((S3 9 l_.toNatClampNeg) + 1)), G), rfl, (by rw [← hS0]; exact ⟨by simp only [ms_want, cif_t h_1, cif_t h_3, cif_t h_5, cif_t c_7, cif_f c_8, sU_s, h39], by simp only [ms_want, cif_t h_1, cif_t h_3, cif_t h_5, cif_t c_7, cif_f c_8, sU_s, h39]; simp only [hS3, ex_9]⟩), by rw [ht]; exact hP, va_K.moved hW.alike hK, by rw [hAe]; exact hD⟩, hS.F ht⟩) hS.2.2 dX2_want_117
          · refine lv_bipush (v := -4) hx hb dX2_want_61 (by decide) ?_
            exact W.iret (v := (-4)) hx hb hr (fun t9 ht hW => ⟨⟨(-4), (S0, G), rfl, (by rw [← hS0]; exact ⟨by simp only [ms_want, cif_t h_1, cif_t h_3, cif_t h_5, cif_t c_7, cif_t c_8, sU_s], by simp only [ms_want, cif_t h_1, cif_t h_3, cif_t h_5, cif_t c_7, cif_t c_8, sU_s]⟩), by rw [ht]; exact hP, va_K.moved hW.alike hK, by rw [hAe]; exact hD⟩, hS.F ht⟩) hS.2.2 dX2_want_63
        · refine lv_bipush (v := -3) hx hb dX2_want_47 (by decide) ?_
          exact W.iret (v := (-3)) hx hb hr (fun t9 ht hW => ⟨⟨(-3), (S0, G), rfl, (by rw [← hS0]; exact ⟨by simp only [ms_want, cif_t h_1, cif_t h_3, cif_t h_5, cif_f c_7, sU_s], by simp only [ms_want, cif_t h_1, cif_t h_3, cif_t h_5, cif_f c_7, sU_s]⟩), by rw [ht]; exact hP, va_K.moved hW.alike hK, by rw [hAe]; exact hD⟩, hS.F ht⟩) hS.2.2 dX2_want_49
      · refine lv_if_ne (tgt := 38) hx hb dX2_want_32 (by decide) (fun c_10 => absurd c_10 (by decide)) (fun c_10 => ?_)
        refine lv_bipush (v := -2) hx hb dX2_want_35 (by decide) ?_
        exact W.iret (v := (-2)) hx hb hr (fun t9 ht hW => ⟨⟨(-2), (S0, G), rfl, (by rw [← hS0]; exact ⟨by simp only [ms_want, cif_t h_1, cif_t h_3, cif_f h_5, sU_s], by simp only [ms_want, cif_t h_1, cif_t h_3, cif_f h_5, sU_s]⟩), by rw [ht]; exact hP, va_K.moved hW.alike hK, by rw [hAe]; exact hD⟩, hS.F ht⟩) hS.2.2 dX2_want_37
    · refine lv_if_ne (tgt := 23) hx hb dX2_want_18 (by decide) (fun c_11 => absurd c_11 (by decide)) (fun c_11 => ?_)
      refine lv_iconst (v := -1) hx hb dX2_want_21 (by decide) ?_
      exact W.iret (v := (-1)) hx hb hr (fun t9 ht hW => ⟨⟨(-1), (S0, G), rfl, (by rw [← hS0]; exact ⟨by simp only [ms_want, cif_t h_1, cif_f h_3, sU_s], by simp only [ms_want, cif_t h_1, cif_f h_3, sU_s]⟩), by rw [ht]; exact hP, va_K.moved hW.alike hK, by rw [hAe]; exact hD⟩, hS.F ht⟩) hS.2.2 dX2_want_22
  · refine lv_if_eq (tgt := 21) hx hb dX2_want_10 (by decide) (fun c_12 => ?_) (fun c_12 => absurd c_12 (by decide))
    refine lv_iconst (v := -1) hx hb dX2_want_21 (by decide) ?_
    exact W.iret (v := (-1)) hx hb hr (fun t9 ht hW => ⟨⟨(-1), (S0, G), rfl, (by rw [← hS0]; exact ⟨by simp only [ms_want, cif_f h_1, sU_s], by simp only [ms_want, cif_f h_1, sU_s]⟩), by rw [ht]; exact hP, va_K.moved hW.alike hK, by rw [hAe]; exact hD⟩, hS.F ht⟩) hS.2.2 dX2_want_22

set_option maxHeartbeats 4000000 in
set_option maxRecDepth 100000 in
theorem c_X2_van (l : Launch) (D : va_G) (kI kJ kL : ClassId) (a : Nat → Nat) (S : Nat → Nat → Int32) (G : Nat → Int64) (sz : Nat) (l_ : Int32) (i : Int32) (B : Nat) (hl7 : S 7 0 = nI B) (hB : B ≤ 8) (hw9 : ∀ i, i < 8 → ∃ n : Nat, n ≤ 8 ∧ S 9 i = nI n) : Met l yX2_van wsX2_van ({ frames := 2, cells := 0, slots := 0, locals := 46 }) (q_wP D (xTY kI kJ kL) (mW kI kJ a S G) sz [.ref (a 0), .int l_, .int i]) (va_Qi (fun r (u : (Nat → Nat → Int32) × (Nat → Int64)) => r = (ms_van (sU S 16 0 0) l_ i) ∧ u = ((sU S 16 0 0), G)) (q_wB D (xTY kI kJ kL) (mW kI kJ a S G) sz (fun u : (Nat → Nat → Int32) × (Nat → Int64) => mW kI kJ a u.1 u.2)) (va_A (mW kI kJ a S G) sz)) 0 0 (va_A (mW kI kJ a S G) sz) := by
  refine Met.ofW (cc := cX2_van) (maxL := 3) (ret := (some .int)) (by decide) rfl ?_
  intro p e s m args below meth c s₁ Bd hml hv
  obtain ⟨rfl, hsz, hP, hK, hD0, hN⟩ := hv
  have hx := Bd.exec
  have hb := Bd.bytes
  have hr := Bd.returns
  have hts := atoms_spec (ws := wsX2_van) Bd.pre
  have hown : s.vm.findClass RX2 = some m.cls := findClass_of_methodNamed Bd.named
  have hlocks := Bd.notSynchronized
  subst hsz
  have hD := hD0.self (sz := s.heap.size)
  generalize hAe : va_A (mW kI kJ a S G) s.heap.size = A at hD ⊢
  have hA : ∀ q : Nat, s.heap.size ≤ q → A q := fun q h => by rw [← hAe]; exact Or.inr h
  have hS : va_S A s.heap s.heap [] := va_S.rf
  have hl := lv_entry ([.ref (a 0), .int l_, .int i]) (n := 3) (Nat.le_of_ble_eq_true rfl)
  rw [lg_entry_eq]
  generalize (lg_sl ([.ref (a 0), .int l_, .int i]) ++ List.replicate (3 - (lg_sl ([.ref (a 0), .int l_, .int i])).length) Slot.unset).toArray = ls at hl ⊢
  have hl : lv_has ls 3 [(0, .ref (a 0)), (1, .int l_), (2, .int i)] := hl
  have hinX2 : ∀ w ∈ u_ws RX2 TX2 17, w ∈ wsX2_van := by decide +kernel
  refine lv_aload_n hx hb dX2_van_0 rfl (lv_at hl 0 rfl) ?_
  refine lv_iconst (v := 0) hx hb dX2_van_1 (by decide) ?_
  refine va_put (D := D) (ci := 5) (v := .int 0) (ty := .int) (C := RX2) (T := TX2) (N := 17) hx hb hts hinX2 tyX2 tyX2_ok nmX2 hown hK hP hD hS 0 rfl rfl 0 (by decide) (hts (.fieldLink RX2 59 "LoanCasesModel" "fault" "I") (by decide +kernel)) (fun _ h9 => h9) rfl (by decide +kernel) rfl rfl (Nat.le_of_ble_eq_true rfl) dX2_van_2 (fun H locs hP hD hS => ?_)
  have hP : va_P D vwCl (mW kI kJ a (sU S 16 0 0) G) H := hP
  have hD : va_D A (mW kI kJ a (sU S 16 0 0) G) := hD
  obtain ⟨S0, hS0⟩ : ∃ S0, S0 = sU S 16 0 0 := ⟨_, rfl⟩
  rw [← hS0] at hP hD
  have hl7 : S0 7 0 = nI B := by rw [hS0]; exact hl7
  have hw9 : ∀ i, i < 8 → ∃ n : Nat, n ≤ 8 ∧ S0 9 i = nI n := by rw [hS0]; exact hw9
  refine lv_aload_n hx hb dX2_van_5 rfl (lv_at hl 0 rfl) ?_
  refine lv_iload_n hx hb dX2_van_6 rfl (lv_at hl 1 rfl) ?_
  refine vp_callSi (W.runV (As := [.int l_]) (rest := []) ⟨hx, hb, hml, hown, hts⟩ (c_X2_isLoan l D kI kJ kL a S0 G l_) (cwV 1 hts gX2_van_X2_isLoan rfl rfl rfl (by decide +kernel) ⟨Nat.le_of_ble_eq_true rfl, Nat.le_of_ble_eq_true rfl⟩) (q_rV (w2 := []) hK hN (by rw [List.append_nil]; exact hP) (va_recv hK hP (ci := 5) (q0 := 0) rfl rfl)) rfl rfl hl.1 rfl (lv_room (Nat.le_of_ble_eq_true rfl)) dX2_van_7 ⟨Nat.le_of_ble_eq_true rfl, Nat.le_of_ble_eq_true rfl⟩) (fun r_h_1 h_1 => ?_)
  rcases h_1 with ⟨rfl, h_1⟩ | ⟨rfl, h_1⟩
  · refine lv_if_ne (tgt := 17) hx hb dX2_van_10 (by decide) (fun c_2 => ?_) (fun c_2 => absurd c_2 (by decide))
    refine lv_iload_n hx hb dX2_van_17 rfl (lv_at hl 2 rfl) ?_
    refine lv_i2l hx hb dX2_van_18 rfl ?_
    refine lv_lconst (v := 0) hx hb dX2_van_19 (by decide) ?_
    refine lv_aload_n hx hb dX2_van_20 rfl (lv_at hl 0 rfl) ?_
    refine va_get (D := D) (ci := 5) (v := .ref (a 9)) (C := RX2) (T := TX2) (N := 17) hx hb hts hinX2 hown hK hP 0 rfl rfl 11 (by decide) (hts (.fieldLink RX2 41 "LoanCasesModel" "wants" "[I") (by decide +kernel)) (fun _ h9 => h9) rfl dX2_van_21 ?_
    refine lv_iload_n hx hb dX2_van_24 rfl (lv_at hl 1 rfl) ?_
    refine va_iald (f := S0 9) hx hb hK hP 9 0 rfl rfl (mLn_in hl7 hB h_1) dX2_van_25 ?_
    refine lv_iconst (v := 1) hx hb dX2_van_26 (by decide) ?_
    refine lv_isub hx hb dX2_van_27 ?_
    refine lv_i2l hx hb dX2_van_28 rfl ?_
    refine vp_callSi (W.runS (As := [.long (i.toInt64), .long 0, .long (((S0 9 l_.toNatClampNeg) - 1).toInt64)]) (rest := []) ⟨hx, hb, hml, hown, hts⟩ (c_X2_in l D kI kJ kL (i.toInt64) 0 (((S0 9 l_.toNatClampNeg) - 1).toInt64)) (va_cwS 3 hts gX2_van_X2_in rfl rfl rfl (by decide +kernel) ⟨Nat.le_of_ble_eq_true rfl, Nat.le_of_ble_eq_true rfl⟩) (q_rS0 hK hN) rfl rfl hl.1 rfl (lv_room (Nat.le_of_ble_eq_true rfl)) dX2_van_29 ⟨Nat.le_of_ble_eq_true rfl, Nat.le_of_ble_eq_true rfl⟩) (fun r_h_3 h_3 => ?_)
    rcases h_3 with ⟨rfl, h_3⟩ | ⟨rfl, h_3⟩
    · refine lv_if_eq (tgt := 52) hx hb dX2_van_32 (by decide) (fun c_4 => absurd c_4 (by decide)) (fun c_4 => ?_)
      refine lv_aload_n hx hb dX2_van_35 rfl (lv_at hl 0 rfl) ?_
      refine va_get (D := D) (ci := 5) (v := .ref (a 13)) (C := RX2) (T := TX2) (N := 17) hx hb hts hinX2 hown hK hP 0 rfl rfl 15 (by decide) (hts (.fieldLink RX2 53 "LoanCasesModel" "vans" "[I") (by decide +kernel)) (fun _ h9 => h9) rfl dX2_van_36 ?_
      refine lv_bipush (v := 8) hx hb dX2_van_39 (by decide) ?_
      refine lv_iload_n hx hb dX2_van_41 rfl (lv_at hl 1 rfl) ?_
      refine lv_imul hx hb dX2_van_42 ?_
      refine lv_iload_n hx hb dX2_van_43 rfl (lv_at hl 2 rfl) ?_
      refine lv_iadd hx hb dX2_van_44 ?_
      refine va_iald (f := S0 13) hx hb hK hP 13 0 rfl rfl (m8_in (mLn_in hl7 hB h_1) (by obtain ⟨n9, hn9, e9⟩ := hw9 _ (vin_lt (mLn_in hl7 hB h_1)); exact mIn_in e9 hn9 (by omega) h_3)) dX2_van_45 ?_
      refine vp_callSi (W.runS (As := [.int (S0 13 ((8 * l_) + i).toNatClampNeg)]) (rest := []) ⟨hx, hb, hml, hown, hts⟩ (c_X2_told l D kI kJ kL (S0 13 ((8 * l_) + i).toNatClampNeg)) (va_cwS 1 hts gX2_van_X2_told rfl rfl rfl (by decide +kernel) ⟨Nat.le_of_ble_eq_true rfl, Nat.le_of_ble_eq_true rfl⟩) (q_rS0 hK hN) rfl rfl hl.1 rfl (lv_room (Nat.le_of_ble_eq_true rfl)) dX2_van_46 ⟨Nat.le_of_ble_eq_true rfl, Nat.le_of_ble_eq_true rfl⟩) (fun r_6 h_5 => ?_)
      subst h_5
      refine lv_goto (tgt := 54) hx hb dX2_van_49 (by decide) ?_
      exact W.iret (v := (mto (S0 13 ((8 * l_) + i).toNatClampNeg))) hx hb hr (fun t9 ht hW => ⟨⟨(mto (S0 13 ((8 * l_) + i).toNatClampNeg)), (S0, G), rfl, (by rw [← hS0]; exact ⟨by simp only [ms_van, cif_t h_1, cif_t h_3, sU_s], rfl⟩), by rw [ht]; exact hP, va_K.moved hW.alike hK, by rw [hAe]; exact hD⟩, hS.F ht⟩) hS.2.2 dX2_van_54
    · refine lv_if_eq (tgt := 52) hx hb dX2_van_32 (by decide) (fun c_7 => ?_) (fun c_7 => absurd c_7 (by decide))
      refine lv_bipush (v := -5) hx hb dX2_van_52 (by decide) ?_
      exact W.iret (v := (-5)) hx hb hr (fun t9 ht hW => ⟨⟨(-5), (S0, G), rfl, (by rw [← hS0]; exact ⟨by simp only [ms_van, cif_t h_1, cif_f h_3, sU_s], rfl⟩), by rw [ht]; exact hP, va_K.moved hW.alike hK, by rw [hAe]; exact hD⟩, hS.F ht⟩) hS.2.2 dX2_van_54
  · refine lv_if_ne (tgt := 17) hx hb dX2_van_10 (by decide) (fun c_8 => absurd c_8 (by decide)) (fun c_8 => ?_)
    refine lv_iconst (v := -1) hx hb dX2_van_13 (by decide) ?_
    refine lv_goto (tgt := 54) hx hb dX2_van_14 (by decide) ?_
    exact W.iret (v := (-1)) hx hb hr (fun t9 ht hW => ⟨⟨(-1), (S0, G), rfl, (by rw [← hS0]; exact ⟨by simp only [ms_van, cif_f h_1, sU_s], rfl⟩), by rw [ht]; exact hP, va_K.moved hW.alike hK, by rw [hAe]; exact hD⟩, hS.F ht⟩) hS.2.2 dX2_van_54
