set_option maxHeartbeats 4000000 in
set_option maxRecDepth 100000 in
theorem c_X2_read (l : Launch) (D : va_G) (kI kJ kL : ClassId) (a : Nat → Nat) (S : Nat → Nat → Int32) (G : Nat → Int64) (sz : Nat) (t : Int32) (k : Int32) (i : Int32) (n : Nat) (hn6 : S 6 0 = nI n) (hn : n ≤ 110) (hfm : ∀ i, i < 110 → vp_in (S 0 i) 19) (hsz : ∀ i, i < 110 → ∃ n : Nat, n ≤ 10 ∧ S 2 i = nI n) : Met l yX2_read wsX2_read ({ frames := 3, cells := 0, slots := 0, locals := 70 }) (q_wP D (xTY kI kJ kL) (mW kI kJ a S G) sz [.ref (a 0), .int t, .int k, .int i]) (va_Ql (fun r (u : (Nat → Nat → Int32) × (Nat → Int64)) => r = (ms_read (sU S 16 0 0) G t k i).1 ∧ u = ((ms_read (sU S 16 0 0) G t k i).2, G)) (q_wB D (xTY kI kJ kL) (mW kI kJ a S G) sz (fun u : (Nat → Nat → Int32) × (Nat → Int64) => mW kI kJ a u.1 u.2)) (va_A (mW kI kJ a S G) sz)) 0 0 (va_A (mW kI kJ a S G) sz) := by
  refine Met.ofW (cc := cX2_read) (maxL := 4) (ret := (some .long)) (by decide) rfl ?_
  intro p e s m args below meth c s₁ Bd hml hv
  obtain ⟨rfl, hsz, hP, hK, hD0, hN⟩ := hv
  have hx := Bd.exec
  have hb := Bd.bytes
  have hr := Bd.returns
  have hts := atoms_spec (ws := wsX2_read) Bd.pre
  have hown : s.vm.findClass RX2 = some m.cls := findClass_of_methodNamed Bd.named
  have hlocks := Bd.notSynchronized
  subst hsz
  have hD := hD0.self (sz := s.heap.size)
  generalize hAe : va_A (mW kI kJ a S G) s.heap.size = A at hD ⊢
  have hA : ∀ q : Nat, s.heap.size ≤ q → A q := fun q h => by rw [← hAe]; exact Or.inr h
  have hS : va_S A s.heap s.heap [] := va_S.rf
  have hl := lv_entry ([.ref (a 0), .int t, .int k, .int i]) (n := 4) (Nat.le_of_ble_eq_true rfl)
  rw [lg_entry_eq]
  generalize (lg_sl ([.ref (a 0), .int t, .int k, .int i]) ++ List.replicate (4 - (lg_sl ([.ref (a 0), .int t, .int k, .int i])).length) Slot.unset).toArray = ls at hl ⊢
  have hl : lv_has ls 4 [(0, .ref (a 0)), (1, .int t), (2, .int k), (3, .int i)] := hl
  have hinX2 : ∀ w ∈ u_ws RX2 TX2 17, w ∈ wsX2_read := by decide +kernel
  refine lv_aload_n hx hb dX2_read_0 rfl (lv_at hl 0 rfl) ?_
  refine lv_iconst (v := 0) hx hb dX2_read_1 (by decide) ?_
  refine va_put (D := D) (ci := 5) (v := .int 0) (ty := .int) (C := RX2) (T := TX2) (N := 17) hx hb hts hinX2 tyX2 tyX2_ok nmX2 hown hK hP hD hS 0 rfl rfl 0 (by decide) (hts (.fieldLink RX2 59 "LoanCasesModel" "fault" "I") (by decide +kernel)) (fun _ h9 => h9) rfl (by decide +kernel) rfl rfl (Nat.le_of_ble_eq_true rfl) dX2_read_2 (fun H locs hP hD hS => ?_)
  have hP : va_P D vwCl (mW kI kJ a (sU S 16 0 0) G) H := hP
  have hD : va_D A (mW kI kJ a (sU S 16 0 0) G) := hD
  obtain ⟨S0, hS0⟩ : ∃ S0, S0 = sU S 16 0 0 := ⟨_, rfl⟩
  rw [← hS0] at hP hD
  have hn6 : S0 6 0 = nI n := by rw [hS0]; exact hn6
  have hfm : ∀ i, i < 110 → vp_in (S0 0 i) 19 := by rw [hS0]; exact hfm
  have hsz : ∀ i, i < 110 → ∃ n : Nat, n ≤ 10 ∧ S0 2 i = nI n := by rw [hS0]; exact hsz
  refine lv_aload_n hx hb dX2_read_5 rfl (lv_at hl 0 rfl) ?_
  refine lv_iload_n hx hb dX2_read_6 rfl (lv_at hl 1 rfl) ?_
  refine lv_iload_n hx hb dX2_read_7 rfl (lv_at hl 2 rfl) ?_
  refine lv_iconst (v := 5) hx hb dX2_read_8 (by decide) ?_
  refine lv_bipush (v := 8) hx hb dX2_read_9 (by decide) ?_
  refine vp_callSi (W.runV (As := [.int t, .int k, .int 5, .int 8]) (rest := []) ⟨hx, hb, hml, hown, hts⟩ (c_X2_refusal l D kI kJ kL a S0 G t k 5 8) (cwV 4 hts gX2_read_X2_refusal rfl rfl rfl (by decide +kernel) ⟨Nat.le_of_ble_eq_true rfl, Nat.le_of_ble_eq_true rfl⟩) (q_rV (w2 := []) hK hN (by rw [List.append_nil]; exact hP) (va_recv hK hP (ci := 5) (q0 := 0) rfl rfl)) rfl rfl hl.1 rfl (lv_room (Nat.le_of_ble_eq_true rfl)) dX2_read_11 ⟨Nat.le_of_ble_eq_true rfl, Nat.le_of_ble_eq_true rfl⟩) (fun r_2 h_1 => ?_)
  subst h_1
  refine lv_if_ge (tgt := 19) hx hb dX2_read_14 (by decide) (fun c_3 => ?_) (fun c_3 => ?_)
  · refine lv_aload_n hx hb dX2_read_19 rfl (lv_at hl 0 rfl) ?_
    refine lv_aload_n hx hb dX2_read_20 rfl (lv_at hl 0 rfl) ?_
    refine lv_iload_n hx hb dX2_read_21 rfl (lv_at hl 1 rfl) ?_
    refine lv_iload_n hx hb dX2_read_22 rfl (lv_at hl 2 rfl) ?_
    refine vp_callSi (W.runV (As := [.int t, .int k]) (rest := [.ref (a 0)]) ⟨hx, hb, hml, hown, hts⟩ (c_X2_isOf l D kI kJ kL a S0 G t k (mT_in hn6 hn (mrf_T c_3).1) hfm) (cwV 2 hts gX2_read_X2_isOf rfl rfl rfl (by decide +kernel) ⟨Nat.le_of_ble_eq_true rfl, Nat.le_of_ble_eq_true rfl⟩) (q_rV (w2 := []) hK hN (by rw [List.append_nil]; exact hP) (va_recv hK hP (ci := 5) (q0 := 0) rfl rfl)) rfl rfl hl.1 rfl (lv_room (Nat.le_of_ble_eq_true rfl)) dX2_read_23 ⟨Nat.le_of_ble_eq_true rfl, Nat.le_of_ble_eq_true rfl⟩) (fun r_h_4 h_4 => ?_)
    rcases h_4 with ⟨rfl, h_4⟩ | ⟨rfl, h_4⟩
    · refine lv_if_ne (tgt := 33) hx hb dX2_read_26 (by decide) (fun c_5 => ?_) (fun c_5 => absurd c_5 (by decide))
      refine lv_iload_n hx hb dX2_read_33 rfl (lv_at hl 3 rfl) ?_
      refine lv_i2l hx hb dX2_read_34 rfl ?_
      refine lv_lconst (v := 0) hx hb dX2_read_35 (by decide) ?_
      refine lv_aload_n hx hb dX2_read_36 rfl (lv_at hl 0 rfl) ?_
      refine va_get (D := D) (ci := 5) (v := .ref (a 3)) (C := RX2) (T := TX2) (N := 17) hx hb hts hinX2 hown hK hP 0 rfl rfl 4 (by decide) (hts (.fieldLink RX2 16 "LoanCasesModel" "sizes" "[I") (by decide +kernel)) (fun _ h9 => h9) rfl dX2_read_37 ?_
      refine lv_iload_n hx hb dX2_read_40 rfl (lv_at hl 1 rfl) ?_
      refine va_iald (f := S0 2) hx hb hK hP 3 0 rfl rfl (mT_in hn6 hn (mrf_T c_3).1) dX2_read_41 ?_
      refine lv_iconst (v := 1) hx hb dX2_read_42 (by decide) ?_
      refine lv_isub hx hb dX2_read_43 ?_
      refine lv_i2l hx hb dX2_read_44 rfl ?_
      refine vp_callSi (W.runS (As := [.long (i.toInt64), .long 0, .long (((S0 2 t.toNatClampNeg) - 1).toInt64)]) (rest := [.ref (a 0)]) ⟨hx, hb, hml, hown, hts⟩ (c_X2_in l D kI kJ kL (i.toInt64) 0 (((S0 2 t.toNatClampNeg) - 1).toInt64)) (va_cwS 3 hts gX2_read_X2_in rfl rfl rfl (by decide +kernel) ⟨Nat.le_of_ble_eq_true rfl, Nat.le_of_ble_eq_true rfl⟩) (q_rS0 hK hN) rfl rfl hl.1 rfl (lv_room (Nat.le_of_ble_eq_true rfl)) dX2_read_45 ⟨Nat.le_of_ble_eq_true rfl, Nat.le_of_ble_eq_true rfl⟩) (fun r_h_6 h_6 => ?_)
      rcases h_6 with ⟨rfl, h_6⟩ | ⟨rfl, h_6⟩
      · refine lv_if_ne (tgt := 55) hx hb dX2_read_48 (by decide) (fun c_7 => ?_) (fun c_7 => absurd c_7 (by decide))
        refine lv_iconst (v := 0) hx hb dX2_read_55 (by decide) ?_
        refine va_put (D := D) (ci := 5) (v := .int 0) (ty := .int) (C := RX2) (T := TX2) (N := 17) hx hb hts hinX2 tyX2 tyX2_ok nmX2 hown hK hP hD hS 0 rfl rfl 0 (by decide) (hts (.fieldLink RX2 59 "LoanCasesModel" "fault" "I") (by decide +kernel)) (fun _ h9 => h9) rfl (by decide +kernel) rfl rfl (Nat.le_of_ble_eq_true rfl) dX2_read_56 (fun H locs hP hD hS => ?_)
        have hP : va_P D vwCl (mW kI kJ a (sU S0 16 0 0) G) H := hP
        have hD : va_D A (mW kI kJ a (sU S0 16 0 0) G) := hD
        refine lv_aload_n hx hb dX2_read_59 rfl (lv_at hl 0 rfl) ?_
        refine va_get (D := D) (ci := 5) (v := .int ((sU S0 16 0 0) 16 0)) (C := RX2) (T := TX2) (N := 17) hx hb hts hinX2 hown hK hP 0 rfl rfl 0 (by decide) (hts (.fieldLink RX2 59 "LoanCasesModel" "fault" "I") (by decide +kernel)) (fun _ h9 => h9) rfl dX2_read_60 ?_
        refine lv_if_le (tgt := 70) hx hb dX2_read_63 (by decide) (fun c_8 => ?_) (fun c_8 => absurd (show (0 : Int32) ≤ 0 by decide) c_8)
        refine lv_aload_n hx hb dX2_read_70 rfl (lv_at hl 0 rfl) ?_
        refine va_get (D := D) (ci := 5) (v := .ref (a 4)) (C := RX2) (T := TX2) (N := 17) hx hb hts hinX2 hown hK hP 0 rfl rfl 5 (by decide) (hts (.fieldLink RX2 19 "LoanCasesModel" "numbers" "[J") (by decide +kernel)) (fun _ h9 => h9) rfl dX2_read_71 ?_
        refine lv_bipush (v := 10) hx hb dX2_read_74 (by decide) ?_
        refine lv_iload_n hx hb dX2_read_76 rfl (lv_at hl 1 rfl) ?_
        refine lv_imul hx hb dX2_read_77 ?_
        refine lv_iload_n hx hb dX2_read_78 rfl (lv_at hl 3 rfl) ?_
        refine lv_iadd hx hb dX2_read_79 ?_
        refine va_lald (f := G) hx hb hK hP 4 1 rfl rfl (mpl_in (mT_in hn6 hn (mrf_T c_3).1) h_6 (hsz _ (vin_lt (mT_in hn6 hn (mrf_T c_3).1)))) dX2_read_80 ?_
        exact W.lret (v := (G ((10 * t) + i).toNatClampNeg)) hx hb hr (fun t9 ht hW => ⟨⟨(G ((10 * t) + i).toNatClampNeg), ((sU S0 16 0 0), G), rfl, (by rw [← hS0]; exact ⟨by simp only [ms_read, mPl, cif_t c_3, cif_t h_4, cif_t h_6, sU_s], by simp only [ms_read, mPl, cif_t c_3, cif_t h_4, cif_t h_6, sU_s]⟩), by rw [ht]; exact hP, va_K.moved hW.alike hK, by rw [hAe]; exact hD⟩, hS.F ht⟩) hS.2.2 dX2_read_81
      · refine lv_if_ne (tgt := 55) hx hb dX2_read_48 (by decide) (fun c_9 => absurd c_9 (by decide)) (fun c_9 => ?_)
        refine lv_iconst (v := 2) hx hb dX2_read_51 (by decide) ?_
        refine lv_goto (tgt := 56) hx hb dX2_read_52 (by decide) ?_
        refine va_put (D := D) (ci := 5) (v := .int 2) (ty := .int) (C := RX2) (T := TX2) (N := 17) hx hb hts hinX2 tyX2 tyX2_ok nmX2 hown hK hP hD hS 0 rfl rfl 0 (by decide) (hts (.fieldLink RX2 59 "LoanCasesModel" "fault" "I") (by decide +kernel)) (fun _ h9 => h9) rfl (by decide +kernel) rfl rfl (Nat.le_of_ble_eq_true rfl) dX2_read_56 (fun H locs hP hD hS => ?_)
        have hP : va_P D vwCl (mW kI kJ a (sU S0 16 0 2) G) H := hP
        have hD : va_D A (mW kI kJ a (sU S0 16 0 2) G) := hD
        refine lv_aload_n hx hb dX2_read_59 rfl (lv_at hl 0 rfl) ?_
        refine va_get (D := D) (ci := 5) (v := .int ((sU S0 16 0 2) 16 0)) (C := RX2) (T := TX2) (N := 17) hx hb hts hinX2 hown hK hP 0 rfl rfl 0 (by decide) (hts (.fieldLink RX2 59 "LoanCasesModel" "fault" "I") (by decide +kernel)) (fun _ h9 => h9) rfl dX2_read_60 ?_
        refine lv_if_le (tgt := 70) hx hb dX2_read_63 (by decide) (fun c_10 => absurd (show (2 : Int32) ≤ 0 from c_10) (by decide)) (fun c_10 => ?_)
        refine lv_lconst (v := 0) hx hb dX2_read_66 (by decide) ?_
        refine lv_goto (tgt := 81) hx hb dX2_read_67 (by decide) ?_
        exact W.lret (v := 0) hx hb hr (fun t9 ht hW => ⟨⟨0, ((sU S0 16 0 2), G), rfl, (by rw [← hS0]; exact ⟨by simp only [ms_read, mPl, cif_t c_3, cif_t h_4, cif_f h_6, sU_s], by simp only [ms_read, mPl, cif_t c_3, cif_t h_4, cif_f h_6, sU_s]⟩), by rw [ht]; exact hP, va_K.moved hW.alike hK, by rw [hAe]; exact hD⟩, hS.F ht⟩) hS.2.2 dX2_read_81
    · refine lv_if_ne (tgt := 33) hx hb dX2_read_26 (by decide) (fun c_11 => absurd c_11 (by decide)) (fun c_11 => ?_)
      refine lv_iconst (v := 1) hx hb dX2_read_29 (by decide) ?_
      refine lv_goto (tgt := 56) hx hb dX2_read_30 (by decide) ?_
      refine va_put (D := D) (ci := 5) (v := .int 1) (ty := .int) (C := RX2) (T := TX2) (N := 17) hx hb hts hinX2 tyX2 tyX2_ok nmX2 hown hK hP hD hS 0 rfl rfl 0 (by decide) (hts (.fieldLink RX2 59 "LoanCasesModel" "fault" "I") (by decide +kernel)) (fun _ h9 => h9) rfl (by decide +kernel) rfl rfl (Nat.le_of_ble_eq_true rfl) dX2_read_56 (fun H locs hP hD hS => ?_)
      have hP : va_P D vwCl (mW kI kJ a (sU S0 16 0 1) G) H := hP
      have hD : va_D A (mW kI kJ a (sU S0 16 0 1) G) := hD
      refine lv_aload_n hx hb dX2_read_59 rfl (lv_at hl 0 rfl) ?_
      refine va_get (D := D) (ci := 5) (v := .int ((sU S0 16 0 1) 16 0)) (C := RX2) (T := TX2) (N := 17) hx hb hts hinX2 hown hK hP 0 rfl rfl 0 (by decide) (hts (.fieldLink RX2 59 "LoanCasesModel" "fault" "I") (by decide +kernel)) (fun _ h9 => h9) rfl dX2_read_60 ?_
      refine lv_if_le (tgt := 70) hx hb dX2_read_63 (by decide) (fun c_12 => absurd (show (1 : Int32) ≤ 0 from c_12) (by decide)) (fun c_12 => ?_)
      refine lv_lconst (v := 0) hx hb dX2_read_66 (by decide) ?_
      refine lv_goto (tgt := 81) hx hb dX2_read_67 (by decide) ?_
      exact W.lret (v := 0) hx hb hr (fun t9 ht hW => ⟨⟨0, ((sU S0 16 0 1), G), rfl, (by rw [← hS0]; exact ⟨by simp only [ms_read, mPl, cif_t c_3, cif_f h_4, sU_s], by simp only [ms_read, mPl, cif_t c_3, cif_f h_4, sU_s]⟩), by rw [ht]; exact hP, va_K.moved hW.alike hK, by rw [hAe]; exact hD⟩, hS.F ht⟩) hS.2.2 dX2_read_81
  · refine lv_lconst (v := 0) hx hb dX2_read_17 (by decide) ?_
    exact W.lret (v := 0) hx hb hr (fun t9 ht hW => ⟨⟨0, (S0, G), rfl, (by rw [← hS0]; exact ⟨by simp only [ms_read, mPl, cif_f c_3, sU_s], by simp only [ms_read, mPl, cif_f c_3, sU_s]⟩), by rw [ht]; exact hP, va_K.moved hW.alike hK, by rw [hAe]; exact hD⟩, hS.F ht⟩) hS.2.2 dX2_read_18
