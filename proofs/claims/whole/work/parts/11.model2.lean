
noncomputable def ms_is (S : Nat → Nat → Int32) (t k : Int32) : Int32 := cif (mT S t) (cif (mIn k.toInt64 0 20) (cif (mOf S t k) 1 0) (-2)) (-1)
noncomputable def ms_kinds (S : Nat → Nat → Int32) (t : Int32) : Int32 := cif (mT S t) (mkn S t 20) (-1)
noncomputable def ms_held (S : Nat → Nat → Int32) (b : Int32) : Int32 := cif (mK S b) (mto (mnx S b)) (-1)
noncomputable def ms_innermost (S : Nat → Nat → Int32) (b k : Int32) : Int32 := cif (mK S b) (cif (mIn k.toInt64 0 20) (cif (mde S 110 (mnx S b) < 0) 0 (cif (mOf S (mde S 110 (mnx S b)) k) 1 0)) (-2)) (-1)
noncomputable def ms_depth (S : Nat → Nat → Int32) (b : Int32) : Int32 := cif (mK S b) (mdp S 110 (mnx S b) 1) (-1)
noncomputable def ms_thing (S : Nat → Nat → Int32) (G : Nat → Int64) (f y : Int32) : Int32 × (Nat → Nat → Int32) × (Nat → Int64) := cif (mIn f.toInt64 0 4) (cif (mIn y.toInt64 0 3000) (cif (S 6 0 = 110) (-4, S, G) (S 6 0 + 1 - 1, mad S f y 0, mgl G (S 6 0) 10)) (-2, S, G)) (-2, S, G)
noncomputable def ms_row (S : Nat → Nat → Int32) (G : Nat → Int64) (f z : Int32) : Int32 × (Nat → Nat → Int32) × (Nat → Int64) := cif (mIn f.toInt64 5 17) (cif (z ≤ 10) (cif (S 6 0 = 110) (-4, S, G) (cif (0 ≤ z) (S 6 0 + 1 - 1, mad S f 0 z, mgl G (S 6 0) 10) (-30 - 5, xfd S 5, G))) (-2, S, G)) (-2, S, G)
noncomputable def ms_makeCase (S : Nat → Nat → Int32) (G : Nat → Int64) : Int32 × (Nat → Nat → Int32) × (Nat → Int64) := cif (S 6 0 = 110) (-4, S, G) (S 6 0 + 1 - 1, mad S 18 0 0, mgl G (S 6 0) 10)
noncomputable def ms_worth (S : Nat → Nat → Int32) (t k : Int32) : Int32 × (Nat → Nat → Int32) := cif (mT S t) (cif (mIn k.toInt64 0 3) (cif (mOf S t k) (mwo S t, S) (-30 - 1, xfd S 1)) (-2, S)) (-1, S)
noncomputable def ms_date (S : Nat → Nat → Int32) (t : Int32) : Int32 × (Nat → Nat → Int32) := cif (mT S t) (cif (mOf S t 19) (cif (S 0 t.toNatClampNeg = 2) (S 1 t.toNatClampNeg + 1, S) (S 1 t.toNatClampNeg - 1, S)) (-30 - 1, xfd S 1)) (-1, S)
noncomputable def ms_size (S : Nat → Nat → Int32) (t k : Int32) : Int32 × (Nat → Nat → Int32) := cif (0 ≤ mrf S t k 5 17) (cif (mOf S t k) (S 2 t.toNatClampNeg, S) (-30 - 1, xfd S 1)) (mrf S t k 5 17, S)
noncomputable def ms_write2 (S : Nat → Nat → Int32) (G : Nat → Int64) (t k i : Int32) (v : Int64) : Int32 × (Nat → Nat → Int32) × (Nat → Int64) := cif (mOf S t k) (cif (mPl S t i) (1, S, vp_updL G (10 * t + i).toNatClampNeg (mlo k v)) (-30 - 3, xfd S 3, G)) (-30 - 1, xfd S 1, G)
noncomputable def ms_write (S : Nat → Nat → Int32) (G : Nat → Int64) (t k i : Int32) (v : Int64) : Int32 × (Nat → Nat → Int32) × (Nat → Int64) := cif (0 ≤ mrf S t k 5 8) (cif (k = 8) (cif (mIn v (-2147483648) 2147483647) (ms_write2 S G t k i v) (-2, S, G)) (ms_write2 S G t k i v)) (mrf S t k 5 8, S, G)
noncomputable def ms_read (S : Nat → Nat → Int32) (G : Nat → Int64) (t k i : Int32) : Int64 × (Nat → Nat → Int32) := cif (0 ≤ mrf S t k 5 8) (cif (mOf S t k) (cif (mPl S t i) (G (10 * t + i).toNatClampNeg, sU S 16 0 0) (0, sU S 16 0 2)) (0, sU S 16 0 1)) (0, S)
noncomputable def ms_hang3 (S : Nat → Nat → Int32) (t k i o : Int32) : Int32 × (Nat → Nat → Int32) := cif (mPl S t i) (cif (o = -5) (1, sU S 4 (10 * t + i).toNatClampNeg (-1)) (cif (mOf S o (S 15 (S 0 t.toNatClampNeg).toNatClampNeg)) (1, sU S 4 (10 * t + i).toNatClampNeg o) (-30 - 4, xfd S 4))) (-30 - 3, xfd S 3)
noncomputable def ms_hang2 (S : Nat → Nat → Int32) (t k i o : Int32) : Int32 × (Nat → Nat → Int32) := cif (mIn k.toInt64 9 17) (cif (mOf S t k) (cif (o = -5) (ms_hang3 S t k i o) (cif (mOf S o (S 15 k.toNatClampNeg)) (ms_hang3 S t k i o) (-30 - 1, xfd S 1))) (-30 - 1, xfd S 1)) (-2, S)
noncomputable def ms_hang (S : Nat → Nat → Int32) (t k i o : Int32) : Int32 × (Nat → Nat → Int32) := cif (mT S t) (cif (o = -5) (ms_hang2 S t k i o) (cif (mT S o) (ms_hang2 S t k i o) (-1, S))) (-1, S)
noncomputable def ms_at (S : Nat → Nat → Int32) (t k i : Int32) : Int32 × (Nat → Nat → Int32) := cif (0 ≤ mrf S t k 9 17) (cif (mOf S t k) (cif (mPl S t i) (mto (S 4 (10 * t + i).toNatClampNeg), S) (-30 - 3, xfd S 3)) (-30 - 1, xfd S 1)) (mrf S t k 9 17, S)
noncomputable def ms_deep2 (S : Nat → Nat → Int32) (G : Nat → Int64) (t k i z : Int32) : Int32 × (Nat → Nat → Int32) := cif (mOf S t k) (cif (mPl S t i) (cif (0 ≤ S 4 (10 * t + i).toNatClampNeg) (cif (mPl S (S 4 (10 * t + i).toNatClampNeg) z) (cif (k = 9) ((G (10 * S 4 (10 * t + i).toNatClampNeg + z).toNatClampNeg).toInt32, S) (mto (S 4 (10 * S 4 (10 * t + i).toNatClampNeg + z).toNatClampNeg), S)) (-30 - 3, xfd S 3)) (-30 - 2, xfd S 2)) (-30 - 3, xfd S 3)) (-30 - 1, xfd S 1)
noncomputable def ms_deep (S : Nat → Nat → Int32) (G : Nat → Int64) (t k i z : Int32) : Int32 × (Nat → Nat → Int32) := cif (mT S t) (cif (k = 9) (ms_deep2 S G t k i z) (cif (k = 15) (ms_deep2 S G t k i z) (cif (k = 16) (ms_deep2 S G t k i z) (-2, S)))) (-1, S)
noncomputable def ms_fill2 (S : Nat → Nat → Int32) (b t : Int32) : Int32 × (Nat → Nat → Int32) := cif (t = b) (-3, S) (cif (t = -5) (mto (mnx S b), sU S 4 (10 * b).toNatClampNeg (-1)) (cif (mwi S b 110 t) (-3, S) (mto (mnx S b), sU S 4 (10 * b).toNatClampNeg t)))
noncomputable def ms_fill (S : Nat → Nat → Int32) (b t : Int32) : Int32 × (Nat → Nat → Int32) := cif (mK S b) (cif (t = -5) (ms_fill2 S b t) (cif (mT S t) (ms_fill2 S b t) (-1, S))) (-1, S)
noncomputable def ms_inside (S : Nat → Nat → Int32) (b : Int32) : Int32 × (Nat → Nat → Int32) := cif (mK S b) (cif (0 ≤ mde S 110 (mnx S b)) (cif (mOf S (mde S 110 (mnx S b)) 0) (mwo S (mde S 110 (mnx S b)), S) (-30 - 1, xfd S 1)) (-30 - 2, xfd S 2)) (-1, S)
noncomputable def ms_loan (S : Nat → Nat → Int32) : Int32 × (Nat → Nat → Int32) := cif (S 7 0 = 8) (-4, S) (S 7 0 + 1 - 1, sU (sU (sU (sU S 8 (S 7 0).toNatClampNeg 0) 9 (S 7 0).toNatClampNeg 0) 10 (S 7 0).toNatClampNeg (-5)) 7 0 (S 7 0 + 1))
noncomputable def ms_want (S : Nat → Nat → Int32) (l b k : Int32) : Int32 × (Nat → Nat → Int32) := cif (mLn S l) (cif (mK S b) (cif (mIn k.toInt64 0 20) (cif (S 8 l.toNatClampNeg = 0) (cif (S 9 l.toNatClampNeg = 8) (-4, S) (S 9 l.toNatClampNeg + 1, sU (sU (sU (sU S 11 (8 * l + S 9 l.toNatClampNeg).toNatClampNeg b) 12 (8 * l + S 9 l.toNatClampNeg).toNatClampNeg k) 13 (8 * l + S 9 l.toNatClampNeg).toNatClampNeg (-1)) 9 l.toNatClampNeg (S 9 l.toNatClampNeg + 1))) (-3, S)) (-2, S)) (-1, S)) (-1, S)
noncomputable def mvn (S : Nat → Nat → Int32) (l : Int32) : Nat → Int32
  | 0 => 0
  | k + 1 => cif (0 ≤ S 13 (8 * l + nI k).toNatClampNeg) (mvn S l k + 1) (mvn S l k + 0)
noncomputable def ms_told (S : Nat → Nat → Int32) (l w : Int32) : Int32 := cif (mLn S l) (cif (mIn w.toInt64 0 3) (cif (w = 0) (S 8 l.toNatClampNeg) (cif (w = 1) (S 9 l.toNatClampNeg) (cif (w = 2) (mvn S l (S 9 l.toNatClampNeg).toNatClampNeg) (S 10 l.toNatClampNeg)))) (-2)) (-1)
noncomputable def ms_van (S : Nat → Nat → Int32) (l i : Int32) : Int32 := cif (mLn S l) (cif (mIn i.toInt64 0 (S 9 l.toNatClampNeg - 1).toInt64) (mto (S 13 (8 * l + i).toNatClampNeg)) (-5)) (-1)
theorem sU_s {S : Nat → Nat → Int32} {a i : Nat} {v : Int32} : sU S a i v a i = v := by simp [sU, upd]
theorem mIn_k18 {k : Int32} (h : mIn k.toInt64 9 17) : vp_in k 18 := by
  rw [mIn_iff, Int32.toInt_toInt64] at h
  rw [vp_in_iff]
  have e0 : (9 : Int64).toInt = 9 := by decide
  have e1 : (17 : Int64).toInt = 17 := by decide
  omega
theorem mIn_f6 {k : Int32} (h : mIn k.toInt64 4 8) : vp_in (k - 3) 6 := by
  rw [mIn_iff, Int32.toInt_toInt64] at h
  have e0 : (4 : Int64).toInt = 4 := by decide
  have e1 : (8 : Int64).toInt = 8 := by decide
  refine btw_sub ⟨?_, ?_⟩
  · rw [Int32.lt_iff_toInt_lt, show (4 : Int32).toInt = 4 by decide]; omega
  · rw [Int32.lt_iff_toInt_lt, show (8 : Int32).toInt = 8 by decide]; omega
def kTab : List Int32 := [1, 3, 524295, 9, 524304, 32, 64, 128, 256, 512, 1024, 3072, 23552, 9216, 16384, 32768, 65536, 131072, 262144]
theorem kTab_18 : ∀ k : Nat, k < 18 → 9 ≤ k → ¬ (((262144 : Int32) >>> (nI k &&& 31)) &&& 1 = 1) := by decide
theorem mOf_18 {S : Nat → Nat → Int32} {t k : Int32} (hfm : vp_in (S 0 t.toNatClampNeg) 19) (h14 : S 14 18 = 262144) (hk : mIn k.toInt64 9 17) (h : mOf S t k) : vp_in (S 0 t.toNatClampNeg) 18 := by
  obtain ⟨j, hj, e⟩ := vp_in_of hfm (by omega)
  rw [e]
  rcases Nat.lt_or_ge j 18 with q | q
  · exact vp_in_nI q (by omega)
  · exfalso
    have hj2 : j = 18 := by omega
    obtain ⟨k', hk', ek⟩ := vp_in_of (mIn_k18 hk) (by omega)
    rw [mIn_iff, Int32.toInt_toInt64, ek, nI_toInt (by omega), show (9 : Int64).toInt = 9 by decide] at hk
    rcases h with h | h
    · rw [ek] at h
      have := congrArg Int32.toInt h
      rw [nI_toInt (by omega), show (20 : Int32).toInt = 20 by decide] at this
      omega
    · rw [e, hj2, nI_clamp (by omega), h14, ek] at h
      exact kTab_18 k' hk' (by omega) h
set_option maxHeartbeats 4000000 in
set_option maxRecDepth 100000 in
theorem c_X2_is (l : Launch) (D : va_G) (kI kJ kL : ClassId) (a : Nat → Nat) (S : Nat → Nat → Int32) (G : Nat → Int64) (sz : Nat) (t : Int32) (k : Int32) (n : Nat) (hn6 : S 6 0 = nI n) (hn : n ≤ 110) (hfm : ∀ i, i < 110 → vp_in (S 0 i) 19) : Met l yX2_is wsX2_is ({ frames := 2, cells := 0, slots := 0, locals := 46 }) (q_wP D (xTY kI kJ kL) (mW kI kJ a S G) sz [.ref (a 0), .int t, .int k]) (va_Qi (fun r (u : (Nat → Nat → Int32) × (Nat → Int64)) => r = (ms_is (sU S 16 0 0) t k) ∧ u = ((sU S 16 0 0), G)) (q_wB D (xTY kI kJ kL) (mW kI kJ a S G) sz (fun u : (Nat → Nat → Int32) × (Nat → Int64) => mW kI kJ a u.1 u.2)) (va_A (mW kI kJ a S G) sz)) 0 0 (va_A (mW kI kJ a S G) sz) := by
  refine Met.ofW (cc := cX2_is) (maxL := 3) (ret := (some .int)) (by decide) rfl ?_
  intro p e s m args below meth c s₁ Bd hml hv
  obtain ⟨rfl, hsz, hP, hK, hD0, hN⟩ := hv
  have hx := Bd.exec
  have hb := Bd.bytes
  have hr := Bd.returns
  have hts := atoms_spec (ws := wsX2_is) Bd.pre
  have hown : s.vm.findClass RX2 = some m.cls := findClass_of_methodNamed Bd.named
  have hlocks := Bd.notSynchronized
  subst hsz
  have hD := hD0.self (sz := s.heap.size)
  generalize hAe : va_A (mW kI kJ a S G) s.heap.size = A at hD ⊢
  have hA : ∀ q : Nat, s.heap.size ≤ q → A q := fun q h => by rw [← hAe]; exact Or.inr h
  have hS : va_S A s.heap s.heap [] := va_S.rf
  have hl := lv_entry ([.ref (a 0), .int t, .int k]) (n := 3) (Nat.le_of_ble_eq_true rfl)
  rw [lg_entry_eq]
  generalize (lg_sl ([.ref (a 0), .int t, .int k]) ++ List.replicate (3 - (lg_sl ([.ref (a 0), .int t, .int k])).length) Slot.unset).toArray = ls at hl ⊢
  have hl : lv_has ls 3 [(0, .ref (a 0)), (1, .int t), (2, .int k)] := hl
  have hinX2 : ∀ w ∈ u_ws RX2 TX2 17, w ∈ wsX2_is := by decide +kernel
  refine lv_aload_n hx hb dX2_is_0 rfl (lv_at hl 0 rfl) ?_
  refine lv_iconst (v := 0) hx hb dX2_is_1 (by decide) ?_
  refine va_put (D := D) (ci := 5) (v := .int 0) (ty := .int) (C := RX2) (T := TX2) (N := 17) hx hb hts hinX2 tyX2 tyX2_ok nmX2 hown hK hP hD hS 0 rfl rfl 0 (by decide) (hts (.fieldLink RX2 59 "LoanCasesModel" "fault" "I") (by decide +kernel)) (fun _ h9 => h9) rfl (by decide +kernel) rfl rfl (Nat.le_of_ble_eq_true rfl) dX2_is_2 (fun H locs hP hD hS => ?_)
  have hP : va_P D vwCl (mW kI kJ a (sU S 16 0 0) G) H := hP
  have hD : va_D A (mW kI kJ a (sU S 16 0 0) G) := hD
  obtain ⟨S0, hS0⟩ : ∃ S0, S0 = sU S 16 0 0 := ⟨_, rfl⟩
  rw [← hS0] at hP hD
  have hn6 : S0 6 0 = nI n := by rw [hS0]; exact hn6
  have hfm : ∀ i, i < 110 → vp_in (S0 0 i) 19 := by rw [hS0]; exact hfm
  refine lv_aload_n hx hb dX2_is_5 rfl (lv_at hl 0 rfl) ?_
  refine lv_iload_n hx hb dX2_is_6 rfl (lv_at hl 1 rfl) ?_
  refine vp_callSi (W.runV (As := [.int t]) (rest := []) ⟨hx, hb, hml, hown, hts⟩ (c_X2_isThing l D kI kJ kL a S0 G t) (cwV 1 hts gX2_is_X2_isThing rfl rfl rfl (by decide +kernel) ⟨Nat.le_of_ble_eq_true rfl, Nat.le_of_ble_eq_true rfl⟩) (q_rV (w2 := []) hK hN (by rw [List.append_nil]; exact hP) (va_recv hK hP (ci := 5) (q0 := 0) rfl rfl)) rfl rfl hl.1 rfl (lv_room (Nat.le_of_ble_eq_true rfl)) dX2_is_7 ⟨Nat.le_of_ble_eq_true rfl, Nat.le_of_ble_eq_true rfl⟩) (fun r_h_1 h_1 => ?_)
  rcases h_1 with ⟨rfl, h_1⟩ | ⟨rfl, h_1⟩
  · refine lv_if_ne (tgt := 17) hx hb dX2_is_10 (by decide) (fun c_2 => ?_) (fun c_2 => absurd c_2 (by decide))
    refine lv_iload_n hx hb dX2_is_17 rfl (lv_at hl 2 rfl) ?_
    refine lv_i2l hx hb dX2_is_18 rfl ?_
    refine lv_lconst (v := 0) hx hb dX2_is_19 (by decide) ?_
    refine lv_ldc2 hx hb hown (hts (.constantLong RX2 93 (20)) (by decide +kernel)) dX2_is_20 ?_
    refine vp_callSi (W.runS (As := [.long (k.toInt64), .long 0, .long 20]) (rest := []) ⟨hx, hb, hml, hown, hts⟩ (c_X2_in l D kI kJ kL (k.toInt64) 0 20) (va_cwS 3 hts gX2_is_X2_in rfl rfl rfl (by decide +kernel) ⟨Nat.le_of_ble_eq_true rfl, Nat.le_of_ble_eq_true rfl⟩) (q_rS0 hK hN) rfl rfl hl.1 rfl (lv_room (Nat.le_of_ble_eq_true rfl)) dX2_is_23 ⟨Nat.le_of_ble_eq_true rfl, Nat.le_of_ble_eq_true rfl⟩) (fun r_h_3 h_3 => ?_)
    rcases h_3 with ⟨rfl, h_3⟩ | ⟨rfl, h_3⟩
    · refine lv_if_ne (tgt := 34) hx hb dX2_is_26 (by decide) (fun c_4 => ?_) (fun c_4 => absurd c_4 (by decide))
      refine lv_aload_n hx hb dX2_is_34 rfl (lv_at hl 0 rfl) ?_
      refine lv_iload_n hx hb dX2_is_35 rfl (lv_at hl 1 rfl) ?_
      refine lv_iload_n hx hb dX2_is_36 rfl (lv_at hl 2 rfl) ?_
      refine vp_callSi (W.runV (As := [.int t, .int k]) (rest := []) ⟨hx, hb, hml, hown, hts⟩ (c_X2_isOf l D kI kJ kL a S0 G t k (mT_in hn6 hn h_1) hfm) (cwV 2 hts gX2_is_X2_isOf rfl rfl rfl (by decide +kernel) ⟨Nat.le_of_ble_eq_true rfl, Nat.le_of_ble_eq_true rfl⟩) (q_rV (w2 := []) hK hN (by rw [List.append_nil]; exact hP) (va_recv hK hP (ci := 5) (q0 := 0) rfl rfl)) rfl rfl hl.1 rfl (lv_room (Nat.le_of_ble_eq_true rfl)) dX2_is_37 ⟨Nat.le_of_ble_eq_true rfl, Nat.le_of_ble_eq_true rfl⟩) (fun r_h_5 h_5 => ?_)
      rcases h_5 with ⟨rfl, h_5⟩ | ⟨rfl, h_5⟩
      · refine lv_if_eq (tgt := 47) hx hb dX2_is_40 (by decide) (fun c_6 => absurd c_6 (by decide)) (fun c_6 => ?_)
        refine lv_iconst (v := 1) hx hb dX2_is_43 (by decide) ?_
        refine lv_goto (tgt := 48) hx hb dX2_is_44 (by decide) ?_
        exact W.iret (v := 1) hx hb hr (fun t9 ht hW => ⟨⟨1, (S0, G), rfl, (by rw [← hS0]; exact ⟨by simp only [ms_is, cif_t h_1, cif_t h_3, cif_t h_5, sU_s], rfl⟩), by rw [ht]; exact hP, va_K.moved hW.alike hK, by rw [hAe]; exact hD⟩, hS.F ht⟩) hS.2.2 dX2_is_48
      · refine lv_if_eq (tgt := 47) hx hb dX2_is_40 (by decide) (fun c_7 => ?_) (fun c_7 => absurd c_7 (by decide))
        refine lv_iconst (v := 0) hx hb dX2_is_47 (by decide) ?_
        exact W.iret (v := 0) hx hb hr (fun t9 ht hW => ⟨⟨0, (S0, G), rfl, (by rw [← hS0]; exact ⟨by simp only [ms_is, cif_t h_1, cif_t h_3, cif_f h_5, sU_s], rfl⟩), by rw [ht]; exact hP, va_K.moved hW.alike hK, by rw [hAe]; exact hD⟩, hS.F ht⟩) hS.2.2 dX2_is_48
    · refine lv_if_ne (tgt := 34) hx hb dX2_is_26 (by decide) (fun c_8 => absurd c_8 (by decide)) (fun c_8 => ?_)
      refine lv_bipush (v := -2) hx hb dX2_is_29 (by decide) ?_
      refine lv_goto (tgt := 48) hx hb dX2_is_31 (by decide) ?_
      exact W.iret (v := (-2)) hx hb hr (fun t9 ht hW => ⟨⟨(-2), (S0, G), rfl, (by rw [← hS0]; exact ⟨by simp only [ms_is, cif_t h_1, cif_f h_3, sU_s], rfl⟩), by rw [ht]; exact hP, va_K.moved hW.alike hK, by rw [hAe]; exact hD⟩, hS.F ht⟩) hS.2.2 dX2_is_48
  · refine lv_if_ne (tgt := 17) hx hb dX2_is_10 (by decide) (fun c_9 => absurd c_9 (by decide)) (fun c_9 => ?_)
    refine lv_iconst (v := -1) hx hb dX2_is_13 (by decide) ?_
    refine lv_goto (tgt := 48) hx hb dX2_is_14 (by decide) ?_
    exact W.iret (v := (-1)) hx hb hr (fun t9 ht hW => ⟨⟨(-1), (S0, G), rfl, (by rw [← hS0]; exact ⟨by simp only [ms_is, cif_f h_1, sU_s], rfl⟩), by rw [ht]; exact hP, va_K.moved hW.alike hK, by rw [hAe]; exact hD⟩, hS.F ht⟩) hS.2.2 dX2_is_48

set_option maxHeartbeats 4000000 in
set_option maxRecDepth 100000 in
theorem c_X2_held (l : Launch) (D : va_G) (kI kJ kL : ClassId) (a : Nat → Nat) (S : Nat → Nat → Int32) (G : Nat → Int64) (sz : Nat) (b : Int32) (n : Nat) (hn6 : S 6 0 = nI n) (hn : n ≤ 110) : Met l yX2_held wsX2_held ({ frames := 3, cells := 0, slots := 0, locals := 67 }) (q_wP D (xTY kI kJ kL) (mW kI kJ a S G) sz [.ref (a 0), .int b]) (va_Qi (fun r (u : (Nat → Nat → Int32) × (Nat → Int64)) => r = (ms_held (sU S 16 0 0) b) ∧ u = ((sU S 16 0 0), G)) (q_wB D (xTY kI kJ kL) (mW kI kJ a S G) sz (fun u : (Nat → Nat → Int32) × (Nat → Int64) => mW kI kJ a u.1 u.2)) (va_A (mW kI kJ a S G) sz)) 0 0 (va_A (mW kI kJ a S G) sz) := by
  refine Met.ofW (cc := cX2_held) (maxL := 2) (ret := (some .int)) (by decide) rfl ?_
  intro p e s m args below meth c s₁ Bd hml hv
  obtain ⟨rfl, hsz, hP, hK, hD0, hN⟩ := hv
  have hx := Bd.exec
  have hb := Bd.bytes
  have hr := Bd.returns
  have hts := atoms_spec (ws := wsX2_held) Bd.pre
  have hown : s.vm.findClass RX2 = some m.cls := findClass_of_methodNamed Bd.named
  have hlocks := Bd.notSynchronized
  subst hsz
  have hD := hD0.self (sz := s.heap.size)
  generalize hAe : va_A (mW kI kJ a S G) s.heap.size = A at hD ⊢
  have hA : ∀ q : Nat, s.heap.size ≤ q → A q := fun q h => by rw [← hAe]; exact Or.inr h
  have hS : va_S A s.heap s.heap [] := va_S.rf
  have hl := lv_entry ([.ref (a 0), .int b]) (n := 2) (Nat.le_of_ble_eq_true rfl)
  rw [lg_entry_eq]
  generalize (lg_sl ([.ref (a 0), .int b]) ++ List.replicate (2 - (lg_sl ([.ref (a 0), .int b])).length) Slot.unset).toArray = ls at hl ⊢
  have hl : lv_has ls 2 [(0, .ref (a 0)), (1, .int b)] := hl
  have hinX2 : ∀ w ∈ u_ws RX2 TX2 17, w ∈ wsX2_held := by decide +kernel
  refine lv_aload_n hx hb dX2_held_0 rfl (lv_at hl 0 rfl) ?_
  refine lv_iconst (v := 0) hx hb dX2_held_1 (by decide) ?_
  refine va_put (D := D) (ci := 5) (v := .int 0) (ty := .int) (C := RX2) (T := TX2) (N := 17) hx hb hts hinX2 tyX2 tyX2_ok nmX2 hown hK hP hD hS 0 rfl rfl 0 (by decide) (hts (.fieldLink RX2 59 "LoanCasesModel" "fault" "I") (by decide +kernel)) (fun _ h9 => h9) rfl (by decide +kernel) rfl rfl (Nat.le_of_ble_eq_true rfl) dX2_held_2 (fun H locs hP hD hS => ?_)
  have hP : va_P D vwCl (mW kI kJ a (sU S 16 0 0) G) H := hP
  have hD : va_D A (mW kI kJ a (sU S 16 0 0) G) := hD
  obtain ⟨S0, hS0⟩ : ∃ S0, S0 = sU S 16 0 0 := ⟨_, rfl⟩
  rw [← hS0] at hP hD
  have hn6 : S0 6 0 = nI n := by rw [hS0]; exact hn6
  refine lv_aload_n hx hb dX2_held_5 rfl (lv_at hl 0 rfl) ?_
  refine lv_iload_n hx hb dX2_held_6 rfl (lv_at hl 1 rfl) ?_
  refine vp_callSi (W.runV (As := [.int b]) (rest := []) ⟨hx, hb, hml, hown, hts⟩ (c_X2_isCase l D kI kJ kL a S0 G b n hn6 hn) (cwV 1 hts gX2_held_X2_isCase rfl rfl rfl (by decide +kernel) ⟨Nat.le_of_ble_eq_true rfl, Nat.le_of_ble_eq_true rfl⟩) (q_rV (w2 := []) hK hN (by rw [List.append_nil]; exact hP) (va_recv hK hP (ci := 5) (q0 := 0) rfl rfl)) rfl rfl hl.1 rfl (lv_room (Nat.le_of_ble_eq_true rfl)) dX2_held_7 ⟨Nat.le_of_ble_eq_true rfl, Nat.le_of_ble_eq_true rfl⟩) (fun r_h_1 h_1 => ?_)
  rcases h_1 with ⟨rfl, h_1⟩ | ⟨rfl, h_1⟩
  · refine lv_if_eq (tgt := 24) hx hb dX2_held_10 (by decide) (fun c_2 => absurd c_2 (by decide)) (fun c_2 => ?_)
    refine lv_aload_n hx hb dX2_held_13 rfl (lv_at hl 0 rfl) ?_
    refine lv_iload_n hx hb dX2_held_14 rfl (lv_at hl 1 rfl) ?_
    refine vp_callSi (W.runV (As := [.int b]) (rest := []) ⟨hx, hb, hml, hown, hts⟩ (c_X2_heldBy l D kI kJ kL a S0 G b (mT_in hn6 hn h_1.1)) (cwV 1 hts gX2_held_X2_heldBy rfl rfl rfl (by decide +kernel) ⟨Nat.le_of_ble_eq_true rfl, Nat.le_of_ble_eq_true rfl⟩) (q_rV (w2 := []) hK hN (by rw [List.append_nil]; exact hP) (va_recv hK hP (ci := 5) (q0 := 0) rfl rfl)) rfl rfl hl.1 rfl (lv_room (Nat.le_of_ble_eq_true rfl)) dX2_held_15 ⟨Nat.le_of_ble_eq_true rfl, Nat.le_of_ble_eq_true rfl⟩) (fun r_4 h_3 => ?_)
    subst h_3
    refine vp_callSi (W.runS (As := [.int (mnx S0 b)]) (rest := []) ⟨hx, hb, hml, hown, hts⟩ (c_X2_told l D kI kJ kL (mnx S0 b)) (va_cwS 1 hts gX2_held_X2_told rfl rfl rfl (by decide +kernel) ⟨Nat.le_of_ble_eq_true rfl, Nat.le_of_ble_eq_true rfl⟩) (q_rS0 hK hN) rfl rfl hl.1 rfl (lv_room (Nat.le_of_ble_eq_true rfl)) dX2_held_18 ⟨Nat.le_of_ble_eq_true rfl, Nat.le_of_ble_eq_true rfl⟩) (fun r_6 h_5 => ?_)
    subst h_5
    refine lv_goto (tgt := 25) hx hb dX2_held_21 (by decide) ?_
    exact W.iret (v := (mto (mnx S0 b))) hx hb hr (fun t9 ht hW => ⟨⟨(mto (mnx S0 b)), (S0, G), rfl, (by rw [← hS0]; exact ⟨by simp only [ms_held, cif_t h_1, sU_s], rfl⟩), by rw [ht]; exact hP, va_K.moved hW.alike hK, by rw [hAe]; exact hD⟩, hS.F ht⟩) hS.2.2 dX2_held_25
  · refine lv_if_eq (tgt := 24) hx hb dX2_held_10 (by decide) (fun c_7 => ?_) (fun c_7 => absurd c_7 (by decide))
    refine lv_iconst (v := -1) hx hb dX2_held_24 (by decide) ?_
    exact W.iret (v := (-1)) hx hb hr (fun t9 ht hW => ⟨⟨(-1), (S0, G), rfl, (by rw [← hS0]; exact ⟨by simp only [ms_held, cif_f h_1, sU_s], rfl⟩), by rw [ht]; exact hP, va_K.moved hW.alike hK, by rw [hAe]; exact hD⟩, hS.F ht⟩) hS.2.2 dX2_held_25

set_option maxHeartbeats 4000000 in
set_option maxRecDepth 100000 in
theorem c_X2_innermost (l : Launch) (D : va_G) (kI kJ kL : ClassId) (a : Nat → Nat) (S : Nat → Nat → Int32) (G : Nat → Int64) (sz : Nat) (b : Int32) (k : Int32) (n : Nat) (hn6 : S 6 0 = nI n) (hn : n ≤ 110) (hfm : ∀ i, i < 110 → vp_in (S 0 i) 19) (hpv : ∀ i, i < 1100 → S 4 i < 0 ∨ vp_in (S 4 i) 110) (hen : ∀ t : Int32, (t < 0 ∨ vp_in t 110) → men S 110 t) : Met l yX2_innermost wsX2_innermost ({ frames := 3, cells := 0, slots := 0, locals := 67 }) (q_wP D (xTY kI kJ kL) (mW kI kJ a S G) sz [.ref (a 0), .int b, .int k]) (va_Qi (fun r (u : (Nat → Nat → Int32) × (Nat → Int64)) => r = (ms_innermost (sU S 16 0 0) b k) ∧ u = ((sU S 16 0 0), G)) (q_wB D (xTY kI kJ kL) (mW kI kJ a S G) sz (fun u : (Nat → Nat → Int32) × (Nat → Int64) => mW kI kJ a u.1 u.2)) (va_A (mW kI kJ a S G) sz)) 0 0 (va_A (mW kI kJ a S G) sz) := by
  refine Met.ofW (cc := cX2_innermost) (maxL := 4) (ret := (some .int)) (by decide) rfl ?_
  intro p e s m args below meth c s₁ Bd hml hv
  obtain ⟨rfl, hsz, hP, hK, hD0, hN⟩ := hv
  have hx := Bd.exec
  have hb := Bd.bytes
  have hr := Bd.returns
  have hts := atoms_spec (ws := wsX2_innermost) Bd.pre
  have hown : s.vm.findClass RX2 = some m.cls := findClass_of_methodNamed Bd.named
  have hlocks := Bd.notSynchronized
  subst hsz
  have hD := hD0.self (sz := s.heap.size)
  generalize hAe : va_A (mW kI kJ a S G) s.heap.size = A at hD ⊢
  have hA : ∀ q : Nat, s.heap.size ≤ q → A q := fun q h => by rw [← hAe]; exact Or.inr h
  have hS : va_S A s.heap s.heap [] := va_S.rf
  have hl := lv_entry ([.ref (a 0), .int b, .int k]) (n := 4) (Nat.le_of_ble_eq_true rfl)
  rw [lg_entry_eq]
  generalize (lg_sl ([.ref (a 0), .int b, .int k]) ++ List.replicate (4 - (lg_sl ([.ref (a 0), .int b, .int k])).length) Slot.unset).toArray = ls at hl ⊢
  have hl : lv_has ls 4 [(0, .ref (a 0)), (1, .int b), (2, .int k)] := hl
  have hinX2 : ∀ w ∈ u_ws RX2 TX2 17, w ∈ wsX2_innermost := by decide +kernel
  refine lv_aload_n hx hb dX2_innermost_0 rfl (lv_at hl 0 rfl) ?_
  refine lv_iconst (v := 0) hx hb dX2_innermost_1 (by decide) ?_
  refine va_put (D := D) (ci := 5) (v := .int 0) (ty := .int) (C := RX2) (T := TX2) (N := 17) hx hb hts hinX2 tyX2 tyX2_ok nmX2 hown hK hP hD hS 0 rfl rfl 0 (by decide) (hts (.fieldLink RX2 59 "LoanCasesModel" "fault" "I") (by decide +kernel)) (fun _ h9 => h9) rfl (by decide +kernel) rfl rfl (Nat.le_of_ble_eq_true rfl) dX2_innermost_2 (fun H locs hP hD hS => ?_)
  have hP : va_P D vwCl (mW kI kJ a (sU S 16 0 0) G) H := hP
  have hD : va_D A (mW kI kJ a (sU S 16 0 0) G) := hD
  obtain ⟨S0, hS0⟩ : ∃ S0, S0 = sU S 16 0 0 := ⟨_, rfl⟩
  rw [← hS0] at hP hD
  have hn6 : S0 6 0 = nI n := by rw [hS0]; exact hn6
  have hfm : ∀ i, i < 110 → vp_in (S0 0 i) 19 := by rw [hS0]; exact hfm
  have hpv : ∀ i, i < 1100 → S0 4 i < 0 ∨ vp_in (S0 4 i) 110 := by rw [hS0]; exact hpv
  have hen : ∀ t : Int32, (t < 0 ∨ vp_in t 110) → men S0 110 t := by rw [hS0]; exact hen
  refine lv_aload_n hx hb dX2_innermost_5 rfl (lv_at hl 0 rfl) ?_
  refine lv_iload_n hx hb dX2_innermost_6 rfl (lv_at hl 1 rfl) ?_
  refine vp_callSi (W.runV (As := [.int b]) (rest := []) ⟨hx, hb, hml, hown, hts⟩ (c_X2_isCase l D kI kJ kL a S0 G b n hn6 hn) (cwV 1 hts gX2_innermost_X2_isCase rfl rfl rfl (by decide +kernel) ⟨Nat.le_of_ble_eq_true rfl, Nat.le_of_ble_eq_true rfl⟩) (q_rV (w2 := []) hK hN (by rw [List.append_nil]; exact hP) (va_recv hK hP (ci := 5) (q0 := 0) rfl rfl)) rfl rfl hl.1 rfl (lv_room (Nat.le_of_ble_eq_true rfl)) dX2_innermost_7 ⟨Nat.le_of_ble_eq_true rfl, Nat.le_of_ble_eq_true rfl⟩) (fun r_h_1 h_1 => ?_)
  rcases h_1 with ⟨rfl, h_1⟩ | ⟨rfl, h_1⟩
  · refine lv_if_ne (tgt := 15) hx hb dX2_innermost_10 (by decide) (fun c_2 => ?_) (fun c_2 => absurd c_2 (by decide))
    refine lv_iload_n hx hb dX2_innermost_15 rfl (lv_at hl 2 rfl) ?_
    refine lv_i2l hx hb dX2_innermost_16 rfl ?_
    refine lv_lconst (v := 0) hx hb dX2_innermost_17 (by decide) ?_
    refine lv_ldc2 hx hb hown (hts (.constantLong RX2 93 (20)) (by decide +kernel)) dX2_innermost_18 ?_
    refine vp_callSi (W.runS (As := [.long (k.toInt64), .long 0, .long 20]) (rest := []) ⟨hx, hb, hml, hown, hts⟩ (c_X2_in l D kI kJ kL (k.toInt64) 0 20) (va_cwS 3 hts gX2_innermost_X2_in rfl rfl rfl (by decide +kernel) ⟨Nat.le_of_ble_eq_true rfl, Nat.le_of_ble_eq_true rfl⟩) (q_rS0 hK hN) rfl rfl hl.1 rfl (lv_room (Nat.le_of_ble_eq_true rfl)) dX2_innermost_21 ⟨Nat.le_of_ble_eq_true rfl, Nat.le_of_ble_eq_true rfl⟩) (fun r_h_3 h_3 => ?_)
    rcases h_3 with ⟨rfl, h_3⟩ | ⟨rfl, h_3⟩
    · refine lv_if_ne (tgt := 30) hx hb dX2_innermost_24 (by decide) (fun c_4 => ?_) (fun c_4 => absurd c_4 (by decide))
      refine lv_aload_n hx hb dX2_innermost_30 rfl (lv_at hl 0 rfl) ?_
      refine lv_iload_n hx hb dX2_innermost_31 rfl (lv_at hl 1 rfl) ?_
      refine vp_callSi (W.runV (As := [.int b]) (rest := []) ⟨hx, hb, hml, hown, hts⟩ (c_X2_deepest l D kI kJ kL a S0 G b (mT_in hn6 hn h_1.1) hpv (hen _ (hpv _ (vin_lt (m10_in (mT_in hn6 hn h_1.1)))))) (cwV 1 hts gX2_innermost_X2_deepest rfl rfl rfl (by decide +kernel) ⟨Nat.le_of_ble_eq_true rfl, Nat.le_of_ble_eq_true rfl⟩) (q_rV (w2 := []) hK hN (by rw [List.append_nil]; exact hP) (va_recv hK hP (ci := 5) (q0 := 0) rfl rfl)) rfl rfl hl.1 rfl (lv_room (Nat.le_of_ble_eq_true rfl)) dX2_innermost_32 ⟨Nat.le_of_ble_eq_true rfl, Nat.le_of_ble_eq_true rfl⟩) (fun r_6 h_5 => ?_)
      subst h_5
      refine lv_istore_n (lv' := [(3, .int (mde S0 110 (mnx S0 b))), (0, .ref (a 0)), (1, .int b), (2, .int k)]) hx hb dX2_innermost_35 rfl hl (by decide) rfl (fun ls hl => ?_)
      refine lv_iload_n hx hb dX2_innermost_36 rfl (lv_at hl 0 rfl) ?_
      refine lv_if_lt (tgt := 53) hx hb dX2_innermost_37 (by decide) (fun c_7 => ?_) (fun c_7 => ?_)
      · refine lv_iconst (v := 0) hx hb dX2_innermost_53 (by decide) ?_
        exact W.iret (v := 0) hx hb hr (fun t9 ht hW => ⟨⟨0, (S0, G), rfl, (by rw [← hS0]; exact ⟨by simp only [ms_innermost, cif_t h_1, cif_t h_3, cif_t c_7, sU_s], rfl⟩), by rw [ht]; exact hP, va_K.moved hW.alike hK, by rw [hAe]; exact hD⟩, hS.F ht⟩) hS.2.2 dX2_innermost_54
      · refine lv_aload_n hx hb dX2_innermost_40 rfl (lv_at hl 1 rfl) ?_
        refine lv_iload_n hx hb dX2_innermost_41 rfl (lv_at hl 0 rfl) ?_
        refine lv_iload_n hx hb dX2_innermost_42 rfl (lv_at hl 3 rfl) ?_
        refine vp_callSi (W.runV (As := [.int (mde S0 110 (mnx S0 b)), .int k]) (rest := []) ⟨hx, hb, hml, hown, hts⟩ (c_X2_isOf l D kI kJ kL a S0 G (mde S0 110 (mnx S0 b)) k (mfl_ge (mde_in hpv 110 _ (hpv _ (vin_lt (m10_in (mT_in hn6 hn h_1.1))))) c_7) hfm) (cwV 2 hts gX2_innermost_X2_isOf rfl rfl rfl (by decide +kernel) ⟨Nat.le_of_ble_eq_true rfl, Nat.le_of_ble_eq_true rfl⟩) (q_rV (w2 := []) hK hN (by rw [List.append_nil]; exact hP) (va_recv hK hP (ci := 5) (q0 := 0) rfl rfl)) rfl rfl hl.1 rfl (lv_room (Nat.le_of_ble_eq_true rfl)) dX2_innermost_43 ⟨Nat.le_of_ble_eq_true rfl, Nat.le_of_ble_eq_true rfl⟩) (fun r_h_8 h_8 => ?_)
        rcases h_8 with ⟨rfl, h_8⟩ | ⟨rfl, h_8⟩
        · refine lv_if_eq (tgt := 53) hx hb dX2_innermost_46 (by decide) (fun c_9 => absurd c_9 (by decide)) (fun c_9 => ?_)
          refine lv_iconst (v := 1) hx hb dX2_innermost_49 (by decide) ?_
          refine lv_goto (tgt := 54) hx hb dX2_innermost_50 (by decide) ?_
          exact W.iret (v := 1) hx hb hr (fun t9 ht hW => ⟨⟨1, (S0, G), rfl, (by rw [← hS0]; exact ⟨by simp only [ms_innermost, cif_t h_1, cif_t h_3, cif_f c_7, cif_t h_8, sU_s], rfl⟩), by rw [ht]; exact hP, va_K.moved hW.alike hK, by rw [hAe]; exact hD⟩, hS.F ht⟩) hS.2.2 dX2_innermost_54
        · refine lv_if_eq (tgt := 53) hx hb dX2_innermost_46 (by decide) (fun c_10 => ?_) (fun c_10 => absurd c_10 (by decide))
          refine lv_iconst (v := 0) hx hb dX2_innermost_53 (by decide) ?_
          exact W.iret (v := 0) hx hb hr (fun t9 ht hW => ⟨⟨0, (S0, G), rfl, (by rw [← hS0]; exact ⟨by simp only [ms_innermost, cif_t h_1, cif_t h_3, cif_f c_7, cif_f h_8, sU_s], rfl⟩), by rw [ht]; exact hP, va_K.moved hW.alike hK, by rw [hAe]; exact hD⟩, hS.F ht⟩) hS.2.2 dX2_innermost_54
    · refine lv_if_ne (tgt := 30) hx hb dX2_innermost_24 (by decide) (fun c_11 => absurd c_11 (by decide)) (fun c_11 => ?_)
      refine lv_bipush (v := -2) hx hb dX2_innermost_27 (by decide) ?_
      exact W.iret (v := (-2)) hx hb hr (fun t9 ht hW => ⟨⟨(-2), (S0, G), rfl, (by rw [← hS0]; exact ⟨by simp only [ms_innermost, cif_t h_1, cif_f h_3, sU_s], rfl⟩), by rw [ht]; exact hP, va_K.moved hW.alike hK, by rw [hAe]; exact hD⟩, hS.F ht⟩) hS.2.2 dX2_innermost_29
  · refine lv_if_ne (tgt := 15) hx hb dX2_innermost_10 (by decide) (fun c_12 => absurd c_12 (by decide)) (fun c_12 => ?_)
    refine lv_iconst (v := -1) hx hb dX2_innermost_13 (by decide) ?_
    exact W.iret (v := (-1)) hx hb hr (fun t9 ht hW => ⟨⟨(-1), (S0, G), rfl, (by rw [← hS0]; exact ⟨by simp only [ms_innermost, cif_f h_1, sU_s], rfl⟩), by rw [ht]; exact hP, va_K.moved hW.alike hK, by rw [hAe]; exact hD⟩, hS.F ht⟩) hS.2.2 dX2_innermost_14

set_option maxHeartbeats 4000000 in
set_option maxRecDepth 100000 in
theorem c_X2_inside (l : Launch) (D : va_G) (kI kJ kL : ClassId) (a : Nat → Nat) (S : Nat → Nat → Int32) (G : Nat → Int64) (sz : Nat) (b : Int32) (n : Nat) (hn6 : S 6 0 = nI n) (hn : n ≤ 110) (hfm : ∀ i, i < 110 → vp_in (S 0 i) 19) (hpv : ∀ i, i < 1100 → S 4 i < 0 ∨ vp_in (S 4 i) 110) (hen : ∀ t : Int32, (t < 0 ∨ vp_in t 110) → men S 110 t) : Met l yX2_inside wsX2_inside ({ frames := 3, cells := 0, slots := 0, locals := 67 }) (q_wP D (xTY kI kJ kL) (mW kI kJ a S G) sz [.ref (a 0), .int b]) (va_Qi (fun r (u : (Nat → Nat → Int32) × (Nat → Int64)) => r = (ms_inside (sU S 16 0 0) b).1 ∧ u = ((ms_inside (sU S 16 0 0) b).2, G)) (q_wB D (xTY kI kJ kL) (mW kI kJ a S G) sz (fun u : (Nat → Nat → Int32) × (Nat → Int64) => mW kI kJ a u.1 u.2)) (va_A (mW kI kJ a S G) sz)) 0 0 (va_A (mW kI kJ a S G) sz) := by
  refine Met.ofW (cc := cX2_inside) (maxL := 3) (ret := (some .int)) (by decide) rfl ?_
  intro p e s m args below meth c s₁ Bd hml hv
  obtain ⟨rfl, hsz, hP, hK, hD0, hN⟩ := hv
  have hx := Bd.exec
  have hb := Bd.bytes
  have hr := Bd.returns
  have hts := atoms_spec (ws := wsX2_inside) Bd.pre
  have hown : s.vm.findClass RX2 = some m.cls := findClass_of_methodNamed Bd.named
  have hlocks := Bd.notSynchronized
  subst hsz
  have hD := hD0.self (sz := s.heap.size)
  generalize hAe : va_A (mW kI kJ a S G) s.heap.size = A at hD ⊢
  have hA : ∀ q : Nat, s.heap.size ≤ q → A q := fun q h => by rw [← hAe]; exact Or.inr h
  have hS : va_S A s.heap s.heap [] := va_S.rf
  have hl := lv_entry ([.ref (a 0), .int b]) (n := 3) (Nat.le_of_ble_eq_true rfl)
  rw [lg_entry_eq]
  generalize (lg_sl ([.ref (a 0), .int b]) ++ List.replicate (3 - (lg_sl ([.ref (a 0), .int b])).length) Slot.unset).toArray = ls at hl ⊢
  have hl : lv_has ls 3 [(0, .ref (a 0)), (1, .int b)] := hl
  have hinX2 : ∀ w ∈ u_ws RX2 TX2 17, w ∈ wsX2_inside := by decide +kernel
  refine lv_aload_n hx hb dX2_inside_0 rfl (lv_at hl 0 rfl) ?_
  refine lv_iconst (v := 0) hx hb dX2_inside_1 (by decide) ?_
  refine va_put (D := D) (ci := 5) (v := .int 0) (ty := .int) (C := RX2) (T := TX2) (N := 17) hx hb hts hinX2 tyX2 tyX2_ok nmX2 hown hK hP hD hS 0 rfl rfl 0 (by decide) (hts (.fieldLink RX2 59 "LoanCasesModel" "fault" "I") (by decide +kernel)) (fun _ h9 => h9) rfl (by decide +kernel) rfl rfl (Nat.le_of_ble_eq_true rfl) dX2_inside_2 (fun H locs hP hD hS => ?_)
  have hP : va_P D vwCl (mW kI kJ a (sU S 16 0 0) G) H := hP
  have hD : va_D A (mW kI kJ a (sU S 16 0 0) G) := hD
  obtain ⟨S0, hS0⟩ : ∃ S0, S0 = sU S 16 0 0 := ⟨_, rfl⟩
  rw [← hS0] at hP hD
  have hn6 : S0 6 0 = nI n := by rw [hS0]; exact hn6
  have hfm : ∀ i, i < 110 → vp_in (S0 0 i) 19 := by rw [hS0]; exact hfm
  have hpv : ∀ i, i < 1100 → S0 4 i < 0 ∨ vp_in (S0 4 i) 110 := by rw [hS0]; exact hpv
  have hen : ∀ t : Int32, (t < 0 ∨ vp_in t 110) → men S0 110 t := by rw [hS0]; exact hen
  refine lv_aload_n hx hb dX2_inside_5 rfl (lv_at hl 0 rfl) ?_
  refine lv_iload_n hx hb dX2_inside_6 rfl (lv_at hl 1 rfl) ?_
  refine vp_callSi (W.runV (As := [.int b]) (rest := []) ⟨hx, hb, hml, hown, hts⟩ (c_X2_isCase l D kI kJ kL a S0 G b n hn6 hn) (cwV 1 hts gX2_inside_X2_isCase rfl rfl rfl (by decide +kernel) ⟨Nat.le_of_ble_eq_true rfl, Nat.le_of_ble_eq_true rfl⟩) (q_rV (w2 := []) hK hN (by rw [List.append_nil]; exact hP) (va_recv hK hP (ci := 5) (q0 := 0) rfl rfl)) rfl rfl hl.1 rfl (lv_room (Nat.le_of_ble_eq_true rfl)) dX2_inside_7 ⟨Nat.le_of_ble_eq_true rfl, Nat.le_of_ble_eq_true rfl⟩) (fun r_h_1 h_1 => ?_)
  rcases h_1 with ⟨rfl, h_1⟩ | ⟨rfl, h_1⟩
  · refine lv_if_ne (tgt := 15) hx hb dX2_inside_10 (by decide) (fun c_2 => ?_) (fun c_2 => absurd c_2 (by decide))
    refine lv_aload_n hx hb dX2_inside_15 rfl (lv_at hl 0 rfl) ?_
    refine lv_iload_n hx hb dX2_inside_16 rfl (lv_at hl 1 rfl) ?_
    refine vp_callSi (W.runV (As := [.int b]) (rest := []) ⟨hx, hb, hml, hown, hts⟩ (c_X2_deepest l D kI kJ kL a S0 G b (mT_in hn6 hn h_1.1) hpv (hen _ (hpv _ (vin_lt (m10_in (mT_in hn6 hn h_1.1)))))) (cwV 1 hts gX2_inside_X2_deepest rfl rfl rfl (by decide +kernel) ⟨Nat.le_of_ble_eq_true rfl, Nat.le_of_ble_eq_true rfl⟩) (q_rV (w2 := []) hK hN (by rw [List.append_nil]; exact hP) (va_recv hK hP (ci := 5) (q0 := 0) rfl rfl)) rfl rfl hl.1 rfl (lv_room (Nat.le_of_ble_eq_true rfl)) dX2_inside_17 ⟨Nat.le_of_ble_eq_true rfl, Nat.le_of_ble_eq_true rfl⟩) (fun r_4 h_3 => ?_)
    subst h_3
    refine lv_istore_n (lv' := [(2, .int (mde S0 110 (mnx S0 b))), (0, .ref (a 0)), (1, .int b)]) hx hb dX2_inside_20 rfl hl (by decide) rfl (fun ls hl => ?_)
    refine lv_iload_n hx hb dX2_inside_21 rfl (lv_at hl 0 rfl) ?_
    refine lv_if_ge (tgt := 33) hx hb dX2_inside_22 (by decide) (fun c_5 => ?_) (fun c_5 => ?_)
    · refine lv_aload_n hx hb dX2_inside_33 rfl (lv_at hl 1 rfl) ?_
      refine lv_iload_n hx hb dX2_inside_34 rfl (lv_at hl 0 rfl) ?_
      refine lv_iconst (v := 0) hx hb dX2_inside_35 (by decide) ?_
      refine vp_callSi (W.runV (As := [.int (mde S0 110 (mnx S0 b)), .int 0]) (rest := []) ⟨hx, hb, hml, hown, hts⟩ (c_X2_isOf l D kI kJ kL a S0 G (mde S0 110 (mnx S0 b)) 0 (mfl_ge (mde_in hpv 110 _ (hpv _ (vin_lt (m10_in (mT_in hn6 hn h_1.1))))) (Int32.not_lt.mpr c_5)) hfm) (cwV 2 hts gX2_inside_X2_isOf rfl rfl rfl (by decide +kernel) ⟨Nat.le_of_ble_eq_true rfl, Nat.le_of_ble_eq_true rfl⟩) (q_rV (w2 := []) hK hN (by rw [List.append_nil]; exact hP) (va_recv hK hP (ci := 5) (q0 := 0) rfl rfl)) rfl rfl hl.1 rfl (lv_room (Nat.le_of_ble_eq_true rfl)) dX2_inside_36 ⟨Nat.le_of_ble_eq_true rfl, Nat.le_of_ble_eq_true rfl⟩) (fun r_h_6 h_6 => ?_)
      rcases h_6 with ⟨rfl, h_6⟩ | ⟨rfl, h_6⟩
      · refine lv_if_eq (tgt := 50) hx hb dX2_inside_39 (by decide) (fun c_7 => absurd c_7 (by decide)) (fun c_7 => ?_)
        refine lv_aload_n hx hb dX2_inside_42 rfl (lv_at hl 1 rfl) ?_
        refine lv_iload_n hx hb dX2_inside_43 rfl (lv_at hl 0 rfl) ?_
        refine vp_callSi (W.runV (As := [.int (mde S0 110 (mnx S0 b))]) (rest := []) ⟨hx, hb, hml, hown, hts⟩ (c_X2_worthOf l D kI kJ kL a S0 G (mde S0 110 (mnx S0 b)) (mfl_ge (mde_in hpv 110 _ (hpv _ (vin_lt (m10_in (mT_in hn6 hn h_1.1))))) (Int32.not_lt.mpr c_5))) (cwV 1 hts gX2_inside_X2_worthOf rfl rfl rfl (by decide +kernel) ⟨Nat.le_of_ble_eq_true rfl, Nat.le_of_ble_eq_true rfl⟩) (q_rV (w2 := []) hK hN (by rw [List.append_nil]; exact hP) (va_recv hK hP (ci := 5) (q0 := 0) rfl rfl)) rfl rfl hl.1 rfl (lv_room (Nat.le_of_ble_eq_true rfl)) dX2_inside_44 ⟨Nat.le_of_ble_eq_true rfl, Nat.le_of_ble_eq_true rfl⟩) (fun r_9 h_8 => ?_)
        subst h_8
        refine lv_goto (tgt := 55) hx hb dX2_inside_47 (by decide) ?_
        exact W.iret (v := (mwo S0 (mde S0 110 (mnx S0 b)))) hx hb hr (fun t9 ht hW => ⟨⟨(mwo S0 (mde S0 110 (mnx S0 b))), (S0, G), rfl, (by rw [← hS0]; exact ⟨by simp only [ms_inside, cif_t h_1, cif_t c_5, cif_t h_6, sU_s], by simp only [ms_inside, cif_t h_1, cif_t c_5, cif_t h_6, sU_s]⟩), by rw [ht]; exact hP, va_K.moved hW.alike hK, by rw [hAe]; exact hD⟩, hS.F ht⟩) hS.2.2 dX2_inside_55
      · refine lv_if_eq (tgt := 50) hx hb dX2_inside_39 (by decide) (fun c_10 => ?_) (fun c_10 => absurd c_10 (by decide))
        refine lv_aload_n hx hb dX2_inside_50 rfl (lv_at hl 1 rfl) ?_
        refine lv_iconst (v := 1) hx hb dX2_inside_51 (by decide) ?_
        refine qw_i (w2 := []) (va_runV (As := [.int 1]) (rest := []) ⟨hx, hb, hml, hown, hts⟩ (c_X2_found l D kI kJ kL a S0 G H.size 1 (by unfold vp_in; decide)) (cwV 1 hts gX2_inside_X2_found rfl rfl rfl (by decide +kernel) ⟨Nat.le_of_ble_eq_true rfl, Nat.le_of_ble_eq_true rfl⟩) (q_wV (w2 := []) hK hN (by rw [List.append_nil]; exact hP) (by rw [List.append_nil]; exact hD) (va_recv hK hP (ci := 5) (q0 := 0) rfl rfl)) rfl rfl hl.1 rfl (lv_room (Nat.le_of_ble_eq_true rfl)) dX2_inside_52 ⟨Nat.le_of_ble_eq_true rfl, Nat.le_of_ble_eq_true rfl⟩) (by rw [List.append_nil]; exact hP) (by rw [List.append_nil]; exact hD) hS hA (fun r_12 u_13 H locs h_11 hP hD hS => ?_)
        rw [List.append_nil] at hP hD
        obtain ⟨rfl, rfl⟩ := h_11
        have hP : va_P D vwCl (mW kI kJ a (xfd S0 1) G) H := hP
        have hD : va_D A (mW kI kJ a (xfd S0 1) G) := hD
        exact W.iret (v := (-30 - 1)) hx hb hr (fun t9 ht hW => ⟨⟨(-30 - 1), ((xfd S0 1), G), rfl, (by rw [← hS0]; exact ⟨by simp only [ms_inside, cif_t h_1, cif_t c_5, cif_f h_6, sU_s], by simp only [ms_inside, cif_t h_1, cif_t c_5, cif_f h_6, sU_s]⟩), by rw [ht]; exact hP, va_K.moved hW.alike hK, by rw [hAe]; exact hD⟩, hS.F ht⟩) hS.2.2 dX2_inside_55
    · refine lv_aload_n hx hb dX2_inside_25 rfl (lv_at hl 1 rfl) ?_
      refine lv_iconst (v := 2) hx hb dX2_inside_26 (by decide) ?_
      refine qw_i (w2 := []) (va_runV (As := [.int 2]) (rest := []) ⟨hx, hb, hml, hown, hts⟩ (c_X2_found l D kI kJ kL a S0 G H.size 2 (by unfold vp_in; decide)) (cwV 1 hts gX2_inside_X2_found rfl rfl rfl (by decide +kernel) ⟨Nat.le_of_ble_eq_true rfl, Nat.le_of_ble_eq_true rfl⟩) (q_wV (w2 := []) hK hN (by rw [List.append_nil]; exact hP) (by rw [List.append_nil]; exact hD) (va_recv hK hP (ci := 5) (q0 := 0) rfl rfl)) rfl rfl hl.1 rfl (lv_room (Nat.le_of_ble_eq_true rfl)) dX2_inside_27 ⟨Nat.le_of_ble_eq_true rfl, Nat.le_of_ble_eq_true rfl⟩) (by rw [List.append_nil]; exact hP) (by rw [List.append_nil]; exact hD) hS hA (fun r_15 u_16 H locs h_14 hP hD hS => ?_)
      rw [List.append_nil] at hP hD
      obtain ⟨rfl, rfl⟩ := h_14
      have hP : va_P D vwCl (mW kI kJ a (xfd S0 2) G) H := hP
      have hD : va_D A (mW kI kJ a (xfd S0 2) G) := hD
      refine lv_goto (tgt := 55) hx hb dX2_inside_30 (by decide) ?_
      exact W.iret (v := (-30 - 2)) hx hb hr (fun t9 ht hW => ⟨⟨(-30 - 2), ((xfd S0 2), G), rfl, (by rw [← hS0]; exact ⟨by simp only [ms_inside, cif_t h_1, cif_f c_5, sU_s], by simp only [ms_inside, cif_t h_1, cif_f c_5, sU_s]⟩), by rw [ht]; exact hP, va_K.moved hW.alike hK, by rw [hAe]; exact hD⟩, hS.F ht⟩) hS.2.2 dX2_inside_55
  · refine lv_if_ne (tgt := 15) hx hb dX2_inside_10 (by decide) (fun c_17 => absurd c_17 (by decide)) (fun c_17 => ?_)
    refine lv_iconst (v := -1) hx hb dX2_inside_13 (by decide) ?_
    exact W.iret (v := (-1)) hx hb hr (fun t9 ht hW => ⟨⟨(-1), (S0, G), rfl, (by rw [← hS0]; exact ⟨by simp only [ms_inside, cif_f h_1, sU_s], by simp only [ms_inside, cif_f h_1, sU_s]⟩), by rw [ht]; exact hP, va_K.moved hW.alike hK, by rw [hAe]; exact hD⟩, hS.F ht⟩) hS.2.2 dX2_inside_14

set_option maxHeartbeats 4000000 in
set_option maxRecDepth 100000 in
theorem c_X2_thing (l : Launch) (D : va_G) (kI kJ kL : ClassId) (a : Nat → Nat) (S : Nat → Nat → Int32) (G : Nat → Int64) (sz : Nat) (f : Int32) (y : Int32) (n : Nat) (hn6 : S 6 0 = nI n) (hn : n ≤ 110) : Met l yX2_thing wsX2_thing ({ frames := 1, cells := 0, slots := 0, locals := 25 }) (q_wP D (xTY kI kJ kL) (mW kI kJ a S G) sz [.ref (a 0), .int f, .int y]) (va_Qi (fun r (u : (Nat → Nat → Int32) × (Nat → Int64)) => r = (ms_thing (sU S 16 0 0) G f y).1 ∧ u = ((ms_thing (sU S 16 0 0) G f y).2.1, (ms_thing (sU S 16 0 0) G f y).2.2)) (q_wB D (xTY kI kJ kL) (mW kI kJ a S G) sz (fun u : (Nat → Nat → Int32) × (Nat → Int64) => mW kI kJ a u.1 u.2)) (va_A (mW kI kJ a S G) sz)) 0 0 (va_A (mW kI kJ a S G) sz) := by
  refine Met.ofW (cc := cX2_thing) (maxL := 3) (ret := (some .int)) (by decide) rfl ?_
  intro p e s m args below meth c s₁ Bd hml hv
  obtain ⟨rfl, hsz, hP, hK, hD0, hN⟩ := hv
  have hx := Bd.exec
  have hb := Bd.bytes
  have hr := Bd.returns
  have hts := atoms_spec (ws := wsX2_thing) Bd.pre
  have hown : s.vm.findClass RX2 = some m.cls := findClass_of_methodNamed Bd.named
  have hlocks := Bd.notSynchronized
  subst hsz
  have hD := hD0.self (sz := s.heap.size)
  generalize hAe : va_A (mW kI kJ a S G) s.heap.size = A at hD ⊢
  have hA : ∀ q : Nat, s.heap.size ≤ q → A q := fun q h => by rw [← hAe]; exact Or.inr h
  have hS : va_S A s.heap s.heap [] := va_S.rf
  have hl := lv_entry ([.ref (a 0), .int f, .int y]) (n := 3) (Nat.le_of_ble_eq_true rfl)
  rw [lg_entry_eq]
  generalize (lg_sl ([.ref (a 0), .int f, .int y]) ++ List.replicate (3 - (lg_sl ([.ref (a 0), .int f, .int y])).length) Slot.unset).toArray = ls at hl ⊢
  have hl : lv_has ls 3 [(0, .ref (a 0)), (1, .int f), (2, .int y)] := hl
  have hinX2 : ∀ w ∈ u_ws RX2 TX2 17, w ∈ wsX2_thing := by decide +kernel
  refine lv_aload_n hx hb dX2_thing_0 rfl (lv_at hl 0 rfl) ?_
  refine lv_iconst (v := 0) hx hb dX2_thing_1 (by decide) ?_
  refine va_put (D := D) (ci := 5) (v := .int 0) (ty := .int) (C := RX2) (T := TX2) (N := 17) hx hb hts hinX2 tyX2 tyX2_ok nmX2 hown hK hP hD hS 0 rfl rfl 0 (by decide) (hts (.fieldLink RX2 59 "LoanCasesModel" "fault" "I") (by decide +kernel)) (fun _ h9 => h9) rfl (by decide +kernel) rfl rfl (Nat.le_of_ble_eq_true rfl) dX2_thing_2 (fun H locs hP hD hS => ?_)
  have hP : va_P D vwCl (mW kI kJ a (sU S 16 0 0) G) H := hP
  have hD : va_D A (mW kI kJ a (sU S 16 0 0) G) := hD
  obtain ⟨S0, hS0⟩ : ∃ S0, S0 = sU S 16 0 0 := ⟨_, rfl⟩
  rw [← hS0] at hP hD
  have hn6 : S0 6 0 = nI n := by rw [hS0]; exact hn6
  refine lv_iload_n hx hb dX2_thing_5 rfl (lv_at hl 1 rfl) ?_
  refine lv_i2l hx hb dX2_thing_6 rfl ?_
  refine lv_lconst (v := 0) hx hb dX2_thing_7 (by decide) ?_
  refine lv_ldc2 hx hb hown (hts (.constantLong RX2 77 (4)) (by decide +kernel)) dX2_thing_8 ?_
  refine vp_callSi (W.runS (As := [.long (f.toInt64), .long 0, .long 4]) (rest := []) ⟨hx, hb, hml, hown, hts⟩ (c_X2_in l D kI kJ kL (f.toInt64) 0 4) (va_cwS 3 hts gX2_thing_X2_in rfl rfl rfl (by decide +kernel) ⟨Nat.le_of_ble_eq_true rfl, Nat.le_of_ble_eq_true rfl⟩) (q_rS0 hK hN) rfl rfl hl.1 rfl (lv_room (Nat.le_of_ble_eq_true rfl)) dX2_thing_11 ⟨Nat.le_of_ble_eq_true rfl, Nat.le_of_ble_eq_true rfl⟩) (fun r_h_1 h_1 => ?_)
  rcases h_1 with ⟨rfl, h_1⟩ | ⟨rfl, h_1⟩
  · refine lv_if_eq (tgt := 29) hx hb dX2_thing_14 (by decide) (fun c_2 => absurd c_2 (by decide)) (fun c_2 => ?_)
    refine lv_iload_n hx hb dX2_thing_17 rfl (lv_at hl 2 rfl) ?_
    refine lv_i2l hx hb dX2_thing_18 rfl ?_
    refine lv_lconst (v := 0) hx hb dX2_thing_19 (by decide) ?_
    refine lv_ldc2 hx hb hown (hts (.constantLong RX2 79 (3000)) (by decide +kernel)) dX2_thing_20 ?_
    refine vp_callSi (W.runS (As := [.long (y.toInt64), .long 0, .long 3000]) (rest := []) ⟨hx, hb, hml, hown, hts⟩ (c_X2_in l D kI kJ kL (y.toInt64) 0 3000) (va_cwS 3 hts gX2_thing_X2_in rfl rfl rfl (by decide +kernel) ⟨Nat.le_of_ble_eq_true rfl, Nat.le_of_ble_eq_true rfl⟩) (q_rS0 hK hN) rfl rfl hl.1 rfl (lv_room (Nat.le_of_ble_eq_true rfl)) dX2_thing_23 ⟨Nat.le_of_ble_eq_true rfl, Nat.le_of_ble_eq_true rfl⟩) (fun r_h_3 h_3 => ?_)
    rcases h_3 with ⟨rfl, h_3⟩ | ⟨rfl, h_3⟩
    · refine lv_if_ne (tgt := 32) hx hb dX2_thing_26 (by decide) (fun c_4 => ?_) (fun c_4 => absurd c_4 (by decide))
      refine lv_aload_n hx hb dX2_thing_32 rfl (lv_at hl 0 rfl) ?_
      refine va_get (D := D) (ci := 5) (v := .int (S0 6 0)) (C := RX2) (T := TX2) (N := 17) hx hb hts hinX2 hown hK hP 0 rfl rfl 1 (by decide) (hts (.fieldLink RX2 63 "LoanCasesModel" "things" "I") (by decide +kernel)) (fun _ h9 => h9) rfl dX2_thing_33 ?_
      refine lv_bipush (v := 110) hx hb dX2_thing_36 (by decide) ?_
      refine lv_icmp_ne (tgt := 46) hx hb dX2_thing_38 (by decide) (fun c_5 => ?_) (fun c_5 => ?_)
      · refine lv_aload_n hx hb dX2_thing_46 rfl (lv_at hl 0 rfl) ?_
        refine lv_iload_n hx hb dX2_thing_47 rfl (lv_at hl 1 rfl) ?_
        refine lv_iload_n hx hb dX2_thing_48 rfl (lv_at hl 2 rfl) ?_
        refine lv_iconst (v := 0) hx hb dX2_thing_49 (by decide) ?_
        refine qw_i (w2 := []) (va_runV (As := [.int f, .int y, .int 0]) (rest := []) ⟨hx, hb, hml, hown, hts⟩ (c_X2_adds l D kI kJ kL a S0 G H.size f y 0 n hn6 (by rcases Nat.lt_or_ge n 110 with q | q; exact q; exact absurd (show S0 6 0 = 110 by rw [hn6, show n = 110 by omega]; rfl) c_5)) (cwV 3 hts gX2_thing_X2_adds rfl rfl rfl (by decide +kernel) ⟨Nat.le_of_ble_eq_true rfl, Nat.le_of_ble_eq_true rfl⟩) (q_wV (w2 := []) hK hN (by rw [List.append_nil]; exact hP) (by rw [List.append_nil]; exact hD) (va_recv hK hP (ci := 5) (q0 := 0) rfl rfl)) rfl rfl hl.1 rfl (lv_room (Nat.le_of_ble_eq_true rfl)) dX2_thing_50 ⟨Nat.le_of_ble_eq_true rfl, Nat.le_of_ble_eq_true rfl⟩) (by rw [List.append_nil]; exact hP) (by rw [List.append_nil]; exact hD) hS hA (fun r_7 u_8 H locs h_6 hP hD hS => ?_)
        rw [List.append_nil] at hP hD
        obtain ⟨rfl, rfl⟩ := h_6
        have hP : va_P D vwCl (mW kI kJ a (mad S0 f y 0) (mgl G (S0 6 0) 10)) H := hP
        have hD : va_D A (mW kI kJ a (mad S0 f y 0) (mgl G (S0 6 0) 10)) := hD
        exact W.iret (v := (S0 6 0 + 1 - 1)) hx hb hr (fun t9 ht hW => ⟨⟨(S0 6 0 + 1 - 1), ((mad S0 f y 0), (mgl G (S0 6 0) 10)), rfl, (by rw [← hS0]; exact ⟨by simp only [ms_thing, cif_t h_1, cif_t h_3, cif_f c_5, sU_s], by simp only [ms_thing, cif_t h_1, cif_t h_3, cif_f c_5, sU_s]⟩), by rw [ht]; exact hP, va_K.moved hW.alike hK, by rw [hAe]; exact hD⟩, hS.F ht⟩) hS.2.2 dX2_thing_53
      · refine lv_bipush (v := -4) hx hb dX2_thing_41 (by decide) ?_
        refine lv_goto (tgt := 53) hx hb dX2_thing_43 (by decide) ?_
        exact W.iret (v := (-4)) hx hb hr (fun t9 ht hW => ⟨⟨(-4), (S0, G), rfl, (by rw [← hS0]; exact ⟨by simp only [ms_thing, cif_t h_1, cif_t h_3, cif_t c_5, sU_s], by simp only [ms_thing, cif_t h_1, cif_t h_3, cif_t c_5, sU_s]⟩), by rw [ht]; exact hP, va_K.moved hW.alike hK, by rw [hAe]; exact hD⟩, hS.F ht⟩) hS.2.2 dX2_thing_53
    · refine lv_if_ne (tgt := 32) hx hb dX2_thing_26 (by decide) (fun c_9 => absurd c_9 (by decide)) (fun c_9 => ?_)
      refine lv_bipush (v := -2) hx hb dX2_thing_29 (by decide) ?_
      exact W.iret (v := (-2)) hx hb hr (fun t9 ht hW => ⟨⟨(-2), (S0, G), rfl, (by rw [← hS0]; exact ⟨by simp only [ms_thing, cif_t h_1, cif_f h_3, sU_s], by simp only [ms_thing, cif_t h_1, cif_f h_3, sU_s]⟩), by rw [ht]; exact hP, va_K.moved hW.alike hK, by rw [hAe]; exact hD⟩, hS.F ht⟩) hS.2.2 dX2_thing_31
  · refine lv_if_eq (tgt := 29) hx hb dX2_thing_14 (by decide) (fun c_10 => ?_) (fun c_10 => absurd c_10 (by decide))
    refine lv_bipush (v := -2) hx hb dX2_thing_29 (by decide) ?_
    exact W.iret (v := (-2)) hx hb hr (fun t9 ht hW => ⟨⟨(-2), (S0, G), rfl, (by rw [← hS0]; exact ⟨by simp only [ms_thing, cif_f h_1, sU_s], by simp only [ms_thing, cif_f h_1, sU_s]⟩), by rw [ht]; exact hP, va_K.moved hW.alike hK, by rw [hAe]; exact hD⟩, hS.F ht⟩) hS.2.2 dX2_thing_31

set_option maxHeartbeats 4000000 in
set_option maxRecDepth 100000 in
theorem c_X2_makeCase (l : Launch) (D : va_G) (kI kJ kL : ClassId) (a : Nat → Nat) (S : Nat → Nat → Int32) (G : Nat → Int64) (sz : Nat) (n : Nat) (hn6 : S 6 0 = nI n) (hn : n ≤ 110) : Met l yX2_makeCase wsX2_makeCase ({ frames := 1, cells := 0, slots := 0, locals := 24 }) (q_wP D (xTY kI kJ kL) (mW kI kJ a S G) sz [.ref (a 0)]) (va_Qi (fun r (u : (Nat → Nat → Int32) × (Nat → Int64)) => r = (ms_makeCase (sU S 16 0 0) G ).1 ∧ u = ((ms_makeCase (sU S 16 0 0) G ).2.1, (ms_makeCase (sU S 16 0 0) G ).2.2)) (q_wB D (xTY kI kJ kL) (mW kI kJ a S G) sz (fun u : (Nat → Nat → Int32) × (Nat → Int64) => mW kI kJ a u.1 u.2)) (va_A (mW kI kJ a S G) sz)) 0 0 (va_A (mW kI kJ a S G) sz) := by
  refine Met.ofW (cc := cX2_makeCase) (maxL := 1) (ret := (some .int)) (by decide) rfl ?_
  intro p e s m args below meth c s₁ Bd hml hv
  obtain ⟨rfl, hsz, hP, hK, hD0, hN⟩ := hv
  have hx := Bd.exec
  have hb := Bd.bytes
  have hr := Bd.returns
  have hts := atoms_spec (ws := wsX2_makeCase) Bd.pre
  have hown : s.vm.findClass RX2 = some m.cls := findClass_of_methodNamed Bd.named
  have hlocks := Bd.notSynchronized
  subst hsz
  have hD := hD0.self (sz := s.heap.size)
  generalize hAe : va_A (mW kI kJ a S G) s.heap.size = A at hD ⊢
  have hA : ∀ q : Nat, s.heap.size ≤ q → A q := fun q h => by rw [← hAe]; exact Or.inr h
  have hS : va_S A s.heap s.heap [] := va_S.rf
  have hl := lv_entry ([.ref (a 0)]) (n := 1) (Nat.le_of_ble_eq_true rfl)
  rw [lg_entry_eq]
  generalize (lg_sl ([.ref (a 0)]) ++ List.replicate (1 - (lg_sl ([.ref (a 0)])).length) Slot.unset).toArray = ls at hl ⊢
  have hl : lv_has ls 1 [(0, .ref (a 0))] := hl
  have hinX2 : ∀ w ∈ u_ws RX2 TX2 17, w ∈ wsX2_makeCase := by decide +kernel
  refine lv_aload_n hx hb dX2_makeCase_0 rfl (lv_at hl 0 rfl) ?_
  refine lv_iconst (v := 0) hx hb dX2_makeCase_1 (by decide) ?_
  refine va_put (D := D) (ci := 5) (v := .int 0) (ty := .int) (C := RX2) (T := TX2) (N := 17) hx hb hts hinX2 tyX2 tyX2_ok nmX2 hown hK hP hD hS 0 rfl rfl 0 (by decide) (hts (.fieldLink RX2 59 "LoanCasesModel" "fault" "I") (by decide +kernel)) (fun _ h9 => h9) rfl (by decide +kernel) rfl rfl (Nat.le_of_ble_eq_true rfl) dX2_makeCase_2 (fun H locs hP hD hS => ?_)
  have hP : va_P D vwCl (mW kI kJ a (sU S 16 0 0) G) H := hP
  have hD : va_D A (mW kI kJ a (sU S 16 0 0) G) := hD
  obtain ⟨S0, hS0⟩ : ∃ S0, S0 = sU S 16 0 0 := ⟨_, rfl⟩
  rw [← hS0] at hP hD
  have hn6 : S0 6 0 = nI n := by rw [hS0]; exact hn6
  refine lv_aload_n hx hb dX2_makeCase_5 rfl (lv_at hl 0 rfl) ?_
  refine va_get (D := D) (ci := 5) (v := .int (S0 6 0)) (C := RX2) (T := TX2) (N := 17) hx hb hts hinX2 hown hK hP 0 rfl rfl 1 (by decide) (hts (.fieldLink RX2 63 "LoanCasesModel" "things" "I") (by decide +kernel)) (fun _ h9 => h9) rfl dX2_makeCase_6 ?_
  refine lv_bipush (v := 110) hx hb dX2_makeCase_9 (by decide) ?_
  refine lv_icmp_ne (tgt := 19) hx hb dX2_makeCase_11 (by decide) (fun c_1 => ?_) (fun c_1 => ?_)
  · refine lv_aload_n hx hb dX2_makeCase_19 rfl (lv_at hl 0 rfl) ?_
    refine lv_bipush (v := 18) hx hb dX2_makeCase_20 (by decide) ?_
    refine lv_iconst (v := 0) hx hb dX2_makeCase_22 (by decide) ?_
    refine lv_iconst (v := 0) hx hb dX2_makeCase_23 (by decide) ?_
    refine qw_i (w2 := []) (va_runV (As := [.int 18, .int 0, .int 0]) (rest := []) ⟨hx, hb, hml, hown, hts⟩ (c_X2_adds l D kI kJ kL a S0 G H.size 18 0 0 n hn6 (by rcases Nat.lt_or_ge n 110 with q | q; exact q; exact absurd (show S0 6 0 = 110 by rw [hn6, show n = 110 by omega]; rfl) c_1)) (cwV 3 hts gX2_makeCase_X2_adds rfl rfl rfl (by decide +kernel) ⟨Nat.le_of_ble_eq_true rfl, Nat.le_of_ble_eq_true rfl⟩) (q_wV (w2 := []) hK hN (by rw [List.append_nil]; exact hP) (by rw [List.append_nil]; exact hD) (va_recv hK hP (ci := 5) (q0 := 0) rfl rfl)) rfl rfl hl.1 rfl (lv_room (Nat.le_of_ble_eq_true rfl)) dX2_makeCase_24 ⟨Nat.le_of_ble_eq_true rfl, Nat.le_of_ble_eq_true rfl⟩) (by rw [List.append_nil]; exact hP) (by rw [List.append_nil]; exact hD) hS hA (fun r_3 u_4 H locs h_2 hP hD hS => ?_)
    rw [List.append_nil] at hP hD
    obtain ⟨rfl, rfl⟩ := h_2
    have hP : va_P D vwCl (mW kI kJ a (mad S0 18 0 0) (mgl G (S0 6 0) 10)) H := hP
    have hD : va_D A (mW kI kJ a (mad S0 18 0 0) (mgl G (S0 6 0) 10)) := hD
    exact W.iret (v := (S0 6 0 + 1 - 1)) hx hb hr (fun t9 ht hW => ⟨⟨(S0 6 0 + 1 - 1), ((mad S0 18 0 0), (mgl G (S0 6 0) 10)), rfl, (by rw [← hS0]; exact ⟨by simp only [ms_makeCase, cif_f c_1, sU_s], by simp only [ms_makeCase, cif_f c_1, sU_s]⟩), by rw [ht]; exact hP, va_K.moved hW.alike hK, by rw [hAe]; exact hD⟩, hS.F ht⟩) hS.2.2 dX2_makeCase_27
  · refine lv_bipush (v := -4) hx hb dX2_makeCase_14 (by decide) ?_
    refine lv_goto (tgt := 27) hx hb dX2_makeCase_16 (by decide) ?_
    exact W.iret (v := (-4)) hx hb hr (fun t9 ht hW => ⟨⟨(-4), (S0, G), rfl, (by rw [← hS0]; exact ⟨by simp only [ms_makeCase, cif_t c_1, sU_s], by simp only [ms_makeCase, cif_t c_1, sU_s]⟩), by rw [ht]; exact hP, va_K.moved hW.alike hK, by rw [hAe]; exact hD⟩, hS.F ht⟩) hS.2.2 dX2_makeCase_27

set_option maxHeartbeats 4000000 in
set_option maxRecDepth 100000 in
theorem c_X2_row (l : Launch) (D : va_G) (kI kJ kL : ClassId) (a : Nat → Nat) (S : Nat → Nat → Int32) (G : Nat → Int64) (sz : Nat) (f : Int32) (z : Int32) (n : Nat) (hn6 : S 6 0 = nI n) (hn : n ≤ 110) : Met l yX2_row wsX2_row ({ frames := 1, cells := 0, slots := 0, locals := 25 }) (q_wP D (xTY kI kJ kL) (mW kI kJ a S G) sz [.ref (a 0), .int f, .int z]) (va_Qi (fun r (u : (Nat → Nat → Int32) × (Nat → Int64)) => r = (ms_row (sU S 16 0 0) G f z).1 ∧ u = ((ms_row (sU S 16 0 0) G f z).2.1, (ms_row (sU S 16 0 0) G f z).2.2)) (q_wB D (xTY kI kJ kL) (mW kI kJ a S G) sz (fun u : (Nat → Nat → Int32) × (Nat → Int64) => mW kI kJ a u.1 u.2)) (va_A (mW kI kJ a S G) sz)) 0 0 (va_A (mW kI kJ a S G) sz) := by
  refine Met.ofW (cc := cX2_row) (maxL := 3) (ret := (some .int)) (by decide) rfl ?_
  intro p e s m args below meth c s₁ Bd hml hv
  obtain ⟨rfl, hsz, hP, hK, hD0, hN⟩ := hv
  have hx := Bd.exec
  have hb := Bd.bytes
  have hr := Bd.returns
  have hts := atoms_spec (ws := wsX2_row) Bd.pre
  have hown : s.vm.findClass RX2 = some m.cls := findClass_of_methodNamed Bd.named
  have hlocks := Bd.notSynchronized
  subst hsz
  have hD := hD0.self (sz := s.heap.size)
  generalize hAe : va_A (mW kI kJ a S G) s.heap.size = A at hD ⊢
  have hA : ∀ q : Nat, s.heap.size ≤ q → A q := fun q h => by rw [← hAe]; exact Or.inr h
  have hS : va_S A s.heap s.heap [] := va_S.rf
  have hl := lv_entry ([.ref (a 0), .int f, .int z]) (n := 3) (Nat.le_of_ble_eq_true rfl)
  rw [lg_entry_eq]
  generalize (lg_sl ([.ref (a 0), .int f, .int z]) ++ List.replicate (3 - (lg_sl ([.ref (a 0), .int f, .int z])).length) Slot.unset).toArray = ls at hl ⊢
  have hl : lv_has ls 3 [(0, .ref (a 0)), (1, .int f), (2, .int z)] := hl
  have hinX2 : ∀ w ∈ u_ws RX2 TX2 17, w ∈ wsX2_row := by decide +kernel
  refine lv_aload_n hx hb dX2_row_0 rfl (lv_at hl 0 rfl) ?_
  refine lv_iconst (v := 0) hx hb dX2_row_1 (by decide) ?_
  refine va_put (D := D) (ci := 5) (v := .int 0) (ty := .int) (C := RX2) (T := TX2) (N := 17) hx hb hts hinX2 tyX2 tyX2_ok nmX2 hown hK hP hD hS 0 rfl rfl 0 (by decide) (hts (.fieldLink RX2 59 "LoanCasesModel" "fault" "I") (by decide +kernel)) (fun _ h9 => h9) rfl (by decide +kernel) rfl rfl (Nat.le_of_ble_eq_true rfl) dX2_row_2 (fun H locs hP hD hS => ?_)
  have hP : va_P D vwCl (mW kI kJ a (sU S 16 0 0) G) H := hP
  have hD : va_D A (mW kI kJ a (sU S 16 0 0) G) := hD
  obtain ⟨S0, hS0⟩ : ∃ S0, S0 = sU S 16 0 0 := ⟨_, rfl⟩
  rw [← hS0] at hP hD
  have hn6 : S0 6 0 = nI n := by rw [hS0]; exact hn6
  refine lv_iload_n hx hb dX2_row_5 rfl (lv_at hl 1 rfl) ?_
  refine lv_i2l hx hb dX2_row_6 rfl ?_
  refine lv_ldc2 hx hb hown (hts (.constantLong RX2 85 (5)) (by decide +kernel)) dX2_row_7 ?_
  refine lv_ldc2 hx hb hown (hts (.constantLong RX2 87 (17)) (by decide +kernel)) dX2_row_10 ?_
  refine vp_callSi (W.runS (As := [.long (f.toInt64), .long 5, .long 17]) (rest := []) ⟨hx, hb, hml, hown, hts⟩ (c_X2_in l D kI kJ kL (f.toInt64) 5 17) (va_cwS 3 hts gX2_row_X2_in rfl rfl rfl (by decide +kernel) ⟨Nat.le_of_ble_eq_true rfl, Nat.le_of_ble_eq_true rfl⟩) (q_rS0 hK hN) rfl rfl hl.1 rfl (lv_room (Nat.le_of_ble_eq_true rfl)) dX2_row_13 ⟨Nat.le_of_ble_eq_true rfl, Nat.le_of_ble_eq_true rfl⟩) (fun r_h_1 h_1 => ?_)
  rcases h_1 with ⟨rfl, h_1⟩ | ⟨rfl, h_1⟩
  · refine lv_if_eq (tgt := 25) hx hb dX2_row_16 (by decide) (fun c_2 => absurd c_2 (by decide)) (fun c_2 => ?_)
    refine lv_iload_n hx hb dX2_row_19 rfl (lv_at hl 2 rfl) ?_
    refine lv_bipush (v := 10) hx hb dX2_row_20 (by decide) ?_
    refine lv_icmp_le (tgt := 28) hx hb dX2_row_22 (by decide) (fun c_3 => ?_) (fun c_3 => ?_)
    · refine lv_aload_n hx hb dX2_row_28 rfl (lv_at hl 0 rfl) ?_
      refine va_get (D := D) (ci := 5) (v := .int (S0 6 0)) (C := RX2) (T := TX2) (N := 17) hx hb hts hinX2 hown hK hP 0 rfl rfl 1 (by decide) (hts (.fieldLink RX2 63 "LoanCasesModel" "things" "I") (by decide +kernel)) (fun _ h9 => h9) rfl dX2_row_29 ?_
      refine lv_bipush (v := 110) hx hb dX2_row_32 (by decide) ?_
      refine lv_icmp_ne (tgt := 40) hx hb dX2_row_34 (by decide) (fun c_4 => ?_) (fun c_4 => ?_)
      · refine lv_iload_n hx hb dX2_row_40 rfl (lv_at hl 2 rfl) ?_
        refine lv_if_ge (tgt := 52) hx hb dX2_row_41 (by decide) (fun c_5 => ?_) (fun c_5 => ?_)
        · refine lv_aload_n hx hb dX2_row_52 rfl (lv_at hl 0 rfl) ?_
          refine lv_iload_n hx hb dX2_row_53 rfl (lv_at hl 1 rfl) ?_
          refine lv_iconst (v := 0) hx hb dX2_row_54 (by decide) ?_
          refine lv_iload_n hx hb dX2_row_55 rfl (lv_at hl 2 rfl) ?_
          refine qw_i (w2 := []) (va_runV (As := [.int f, .int 0, .int z]) (rest := []) ⟨hx, hb, hml, hown, hts⟩ (c_X2_adds l D kI kJ kL a S0 G H.size f 0 z n hn6 (by rcases Nat.lt_or_ge n 110 with q | q; exact q; exact absurd (show S0 6 0 = 110 by rw [hn6, show n = 110 by omega]; rfl) c_4)) (cwV 3 hts gX2_row_X2_adds rfl rfl rfl (by decide +kernel) ⟨Nat.le_of_ble_eq_true rfl, Nat.le_of_ble_eq_true rfl⟩) (q_wV (w2 := []) hK hN (by rw [List.append_nil]; exact hP) (by rw [List.append_nil]; exact hD) (va_recv hK hP (ci := 5) (q0 := 0) rfl rfl)) rfl rfl hl.1 rfl (lv_room (Nat.le_of_ble_eq_true rfl)) dX2_row_56 ⟨Nat.le_of_ble_eq_true rfl, Nat.le_of_ble_eq_true rfl⟩) (by rw [List.append_nil]; exact hP) (by rw [List.append_nil]; exact hD) hS hA (fun r_7 u_8 H locs h_6 hP hD hS => ?_)
          rw [List.append_nil] at hP hD
          obtain ⟨rfl, rfl⟩ := h_6
          have hP : va_P D vwCl (mW kI kJ a (mad S0 f 0 z) (mgl G (S0 6 0) 10)) H := hP
          have hD : va_D A (mW kI kJ a (mad S0 f 0 z) (mgl G (S0 6 0) 10)) := hD
          exact W.iret (v := (S0 6 0 + 1 - 1)) hx hb hr (fun t9 ht hW => ⟨⟨(S0 6 0 + 1 - 1), ((mad S0 f 0 z), (mgl G (S0 6 0) 10)), rfl, (by rw [← hS0]; exact ⟨by simp only [ms_row, cif_t h_1, cif_t c_3, cif_f c_4, cif_t c_5, sU_s], by simp only [ms_row, cif_t h_1, cif_t c_3, cif_f c_4, cif_t c_5, sU_s]⟩), by rw [ht]; exact hP, va_K.moved hW.alike hK, by rw [hAe]; exact hD⟩, hS.F ht⟩) hS.2.2 dX2_row_59
        · refine lv_aload_n hx hb dX2_row_44 rfl (lv_at hl 0 rfl) ?_
          refine lv_iconst (v := 5) hx hb dX2_row_45 (by decide) ?_
          refine qw_i (w2 := []) (va_runV (As := [.int 5]) (rest := []) ⟨hx, hb, hml, hown, hts⟩ (c_X2_found l D kI kJ kL a S0 G H.size 5 (by unfold vp_in; decide)) (cwV 1 hts gX2_row_X2_found rfl rfl rfl (by decide +kernel) ⟨Nat.le_of_ble_eq_true rfl, Nat.le_of_ble_eq_true rfl⟩) (q_wV (w2 := []) hK hN (by rw [List.append_nil]; exact hP) (by rw [List.append_nil]; exact hD) (va_recv hK hP (ci := 5) (q0 := 0) rfl rfl)) rfl rfl hl.1 rfl (lv_room (Nat.le_of_ble_eq_true rfl)) dX2_row_46 ⟨Nat.le_of_ble_eq_true rfl, Nat.le_of_ble_eq_true rfl⟩) (by rw [List.append_nil]; exact hP) (by rw [List.append_nil]; exact hD) hS hA (fun r_10 u_11 H locs h_9 hP hD hS => ?_)
          rw [List.append_nil] at hP hD
          obtain ⟨rfl, rfl⟩ := h_9
          have hP : va_P D vwCl (mW kI kJ a (xfd S0 5) G) H := hP
          have hD : va_D A (mW kI kJ a (xfd S0 5) G) := hD
          refine lv_goto (tgt := 59) hx hb dX2_row_49 (by decide) ?_
          exact W.iret (v := (-30 - 5)) hx hb hr (fun t9 ht hW => ⟨⟨(-30 - 5), ((xfd S0 5), G), rfl, (by rw [← hS0]; exact ⟨by simp only [ms_row, cif_t h_1, cif_t c_3, cif_f c_4, cif_f c_5, sU_s], by simp only [ms_row, cif_t h_1, cif_t c_3, cif_f c_4, cif_f c_5, sU_s]⟩), by rw [ht]; exact hP, va_K.moved hW.alike hK, by rw [hAe]; exact hD⟩, hS.F ht⟩) hS.2.2 dX2_row_59
      · refine lv_bipush (v := -4) hx hb dX2_row_37 (by decide) ?_
        exact W.iret (v := (-4)) hx hb hr (fun t9 ht hW => ⟨⟨(-4), (S0, G), rfl, (by rw [← hS0]; exact ⟨by simp only [ms_row, cif_t h_1, cif_t c_3, cif_t c_4, sU_s], by simp only [ms_row, cif_t h_1, cif_t c_3, cif_t c_4, sU_s]⟩), by rw [ht]; exact hP, va_K.moved hW.alike hK, by rw [hAe]; exact hD⟩, hS.F ht⟩) hS.2.2 dX2_row_39
    · refine lv_bipush (v := -2) hx hb dX2_row_25 (by decide) ?_
      exact W.iret (v := (-2)) hx hb hr (fun t9 ht hW => ⟨⟨(-2), (S0, G), rfl, (by rw [← hS0]; exact ⟨by simp only [ms_row, cif_t h_1, cif_f c_3, sU_s], by simp only [ms_row, cif_t h_1, cif_f c_3, sU_s]⟩), by rw [ht]; exact hP, va_K.moved hW.alike hK, by rw [hAe]; exact hD⟩, hS.F ht⟩) hS.2.2 dX2_row_27
  · refine lv_if_eq (tgt := 25) hx hb dX2_row_16 (by decide) (fun c_12 => ?_) (fun c_12 => absurd c_12 (by decide))
    refine lv_bipush (v := -2) hx hb dX2_row_25 (by decide) ?_
    exact W.iret (v := (-2)) hx hb hr (fun t9 ht hW => ⟨⟨(-2), (S0, G), rfl, (by rw [← hS0]; exact ⟨by simp only [ms_row, cif_f h_1, sU_s], by simp only [ms_row, cif_f h_1, sU_s]⟩), by rw [ht]; exact hP, va_K.moved hW.alike hK, by rw [hAe]; exact hD⟩, hS.F ht⟩) hS.2.2 dX2_row_27

set_option maxHeartbeats 4000000 in
set_option maxRecDepth 100000 in
theorem c_X2_worth (l : Launch) (D : va_G) (kI kJ kL : ClassId) (a : Nat → Nat) (S : Nat → Nat → Int32) (G : Nat → Int64) (sz : Nat) (t : Int32) (k : Int32) (n : Nat) (hn6 : S 6 0 = nI n) (hn : n ≤ 110) (hfm : ∀ i, i < 110 → vp_in (S 0 i) 19) : Met l yX2_worth wsX2_worth ({ frames := 2, cells := 0, slots := 0, locals := 46 }) (q_wP D (xTY kI kJ kL) (mW kI kJ a S G) sz [.ref (a 0), .int t, .int k]) (va_Qi (fun r (u : (Nat → Nat → Int32) × (Nat → Int64)) => r = (ms_worth (sU S 16 0 0) t k).1 ∧ u = ((ms_worth (sU S 16 0 0) t k).2, G)) (q_wB D (xTY kI kJ kL) (mW kI kJ a S G) sz (fun u : (Nat → Nat → Int32) × (Nat → Int64) => mW kI kJ a u.1 u.2)) (va_A (mW kI kJ a S G) sz)) 0 0 (va_A (mW kI kJ a S G) sz) := by
  refine Met.ofW (cc := cX2_worth) (maxL := 3) (ret := (some .int)) (by decide) rfl ?_
  intro p e s m args below meth c s₁ Bd hml hv
  obtain ⟨rfl, hsz, hP, hK, hD0, hN⟩ := hv
  have hx := Bd.exec
  have hb := Bd.bytes
  have hr := Bd.returns
  have hts := atoms_spec (ws := wsX2_worth) Bd.pre
  have hown : s.vm.findClass RX2 = some m.cls := findClass_of_methodNamed Bd.named
  have hlocks := Bd.notSynchronized
  subst hsz
  have hD := hD0.self (sz := s.heap.size)
  generalize hAe : va_A (mW kI kJ a S G) s.heap.size = A at hD ⊢
  have hA : ∀ q : Nat, s.heap.size ≤ q → A q := fun q h => by rw [← hAe]; exact Or.inr h
  have hS : va_S A s.heap s.heap [] := va_S.rf
  have hl := lv_entry ([.ref (a 0), .int t, .int k]) (n := 3) (Nat.le_of_ble_eq_true rfl)
  rw [lg_entry_eq]
  generalize (lg_sl ([.ref (a 0), .int t, .int k]) ++ List.replicate (3 - (lg_sl ([.ref (a 0), .int t, .int k])).length) Slot.unset).toArray = ls at hl ⊢
  have hl : lv_has ls 3 [(0, .ref (a 0)), (1, .int t), (2, .int k)] := hl
  have hinX2 : ∀ w ∈ u_ws RX2 TX2 17, w ∈ wsX2_worth := by decide +kernel
  refine lv_aload_n hx hb dX2_worth_0 rfl (lv_at hl 0 rfl) ?_
  refine lv_iconst (v := 0) hx hb dX2_worth_1 (by decide) ?_
  refine va_put (D := D) (ci := 5) (v := .int 0) (ty := .int) (C := RX2) (T := TX2) (N := 17) hx hb hts hinX2 tyX2 tyX2_ok nmX2 hown hK hP hD hS 0 rfl rfl 0 (by decide) (hts (.fieldLink RX2 59 "LoanCasesModel" "fault" "I") (by decide +kernel)) (fun _ h9 => h9) rfl (by decide +kernel) rfl rfl (Nat.le_of_ble_eq_true rfl) dX2_worth_2 (fun H locs hP hD hS => ?_)
  have hP : va_P D vwCl (mW kI kJ a (sU S 16 0 0) G) H := hP
  have hD : va_D A (mW kI kJ a (sU S 16 0 0) G) := hD
  obtain ⟨S0, hS0⟩ : ∃ S0, S0 = sU S 16 0 0 := ⟨_, rfl⟩
  rw [← hS0] at hP hD
  have hn6 : S0 6 0 = nI n := by rw [hS0]; exact hn6
  have hfm : ∀ i, i < 110 → vp_in (S0 0 i) 19 := by rw [hS0]; exact hfm
  refine lv_aload_n hx hb dX2_worth_5 rfl (lv_at hl 0 rfl) ?_
  refine lv_iload_n hx hb dX2_worth_6 rfl (lv_at hl 1 rfl) ?_
  refine vp_callSi (W.runV (As := [.int t]) (rest := []) ⟨hx, hb, hml, hown, hts⟩ (c_X2_isThing l D kI kJ kL a S0 G t) (cwV 1 hts gX2_worth_X2_isThing rfl rfl rfl (by decide +kernel) ⟨Nat.le_of_ble_eq_true rfl, Nat.le_of_ble_eq_true rfl⟩) (q_rV (w2 := []) hK hN (by rw [List.append_nil]; exact hP) (va_recv hK hP (ci := 5) (q0 := 0) rfl rfl)) rfl rfl hl.1 rfl (lv_room (Nat.le_of_ble_eq_true rfl)) dX2_worth_7 ⟨Nat.le_of_ble_eq_true rfl, Nat.le_of_ble_eq_true rfl⟩) (fun r_h_1 h_1 => ?_)
  rcases h_1 with ⟨rfl, h_1⟩ | ⟨rfl, h_1⟩
  · refine lv_if_ne (tgt := 15) hx hb dX2_worth_10 (by decide) (fun c_2 => ?_) (fun c_2 => absurd c_2 (by decide))
    refine lv_iload_n hx hb dX2_worth_15 rfl (lv_at hl 2 rfl) ?_
    refine lv_i2l hx hb dX2_worth_16 rfl ?_
    refine lv_lconst (v := 0) hx hb dX2_worth_17 (by decide) ?_
    refine lv_ldc2 hx hb hown (hts (.constantLong RX2 99 (3)) (by decide +kernel)) dX2_worth_18 ?_
    refine vp_callSi (W.runS (As := [.long (k.toInt64), .long 0, .long 3]) (rest := []) ⟨hx, hb, hml, hown, hts⟩ (c_X2_in l D kI kJ kL (k.toInt64) 0 3) (va_cwS 3 hts gX2_worth_X2_in rfl rfl rfl (by decide +kernel) ⟨Nat.le_of_ble_eq_true rfl, Nat.le_of_ble_eq_true rfl⟩) (q_rS0 hK hN) rfl rfl hl.1 rfl (lv_room (Nat.le_of_ble_eq_true rfl)) dX2_worth_21 ⟨Nat.le_of_ble_eq_true rfl, Nat.le_of_ble_eq_true rfl⟩) (fun r_h_3 h_3 => ?_)
    rcases h_3 with ⟨rfl, h_3⟩ | ⟨rfl, h_3⟩
    · refine lv_if_ne (tgt := 30) hx hb dX2_worth_24 (by decide) (fun c_4 => ?_) (fun c_4 => absurd c_4 (by decide))
      refine lv_aload_n hx hb dX2_worth_30 rfl (lv_at hl 0 rfl) ?_
      refine lv_iload_n hx hb dX2_worth_31 rfl (lv_at hl 1 rfl) ?_
      refine lv_iload_n hx hb dX2_worth_32 rfl (lv_at hl 2 rfl) ?_
      refine vp_callSi (W.runV (As := [.int t, .int k]) (rest := []) ⟨hx, hb, hml, hown, hts⟩ (c_X2_isOf l D kI kJ kL a S0 G t k (mT_in hn6 hn h_1) hfm) (cwV 2 hts gX2_worth_X2_isOf rfl rfl rfl (by decide +kernel) ⟨Nat.le_of_ble_eq_true rfl, Nat.le_of_ble_eq_true rfl⟩) (q_rV (w2 := []) hK hN (by rw [List.append_nil]; exact hP) (va_recv hK hP (ci := 5) (q0 := 0) rfl rfl)) rfl rfl hl.1 rfl (lv_room (Nat.le_of_ble_eq_true rfl)) dX2_worth_33 ⟨Nat.le_of_ble_eq_true rfl, Nat.le_of_ble_eq_true rfl⟩) (fun r_h_5 h_5 => ?_)
      rcases h_5 with ⟨rfl, h_5⟩ | ⟨rfl, h_5⟩
      · refine lv_if_eq (tgt := 47) hx hb dX2_worth_36 (by decide) (fun c_6 => absurd c_6 (by decide)) (fun c_6 => ?_)
        refine lv_aload_n hx hb dX2_worth_39 rfl (lv_at hl 0 rfl) ?_
        refine lv_iload_n hx hb dX2_worth_40 rfl (lv_at hl 1 rfl) ?_
        refine vp_callSi (W.runV (As := [.int t]) (rest := []) ⟨hx, hb, hml, hown, hts⟩ (c_X2_worthOf l D kI kJ kL a S0 G t (mT_in hn6 hn h_1)) (cwV 1 hts gX2_worth_X2_worthOf rfl rfl rfl (by decide +kernel) ⟨Nat.le_of_ble_eq_true rfl, Nat.le_of_ble_eq_true rfl⟩) (q_rV (w2 := []) hK hN (by rw [List.append_nil]; exact hP) (va_recv hK hP (ci := 5) (q0 := 0) rfl rfl)) rfl rfl hl.1 rfl (lv_room (Nat.le_of_ble_eq_true rfl)) dX2_worth_41 ⟨Nat.le_of_ble_eq_true rfl, Nat.le_of_ble_eq_true rfl⟩) (fun r_8 h_7 => ?_)
        subst h_7
        refine lv_goto (tgt := 52) hx hb dX2_worth_44 (by decide) ?_
        exact W.iret (v := (mwo S0 t)) hx hb hr (fun t9 ht hW => ⟨⟨(mwo S0 t), (S0, G), rfl, (by rw [← hS0]; exact ⟨by simp only [ms_worth, cif_t h_1, cif_t h_3, cif_t h_5, sU_s], by simp only [ms_worth, cif_t h_1, cif_t h_3, cif_t h_5, sU_s]⟩), by rw [ht]; exact hP, va_K.moved hW.alike hK, by rw [hAe]; exact hD⟩, hS.F ht⟩) hS.2.2 dX2_worth_52
      · refine lv_if_eq (tgt := 47) hx hb dX2_worth_36 (by decide) (fun c_9 => ?_) (fun c_9 => absurd c_9 (by decide))
        refine lv_aload_n hx hb dX2_worth_47 rfl (lv_at hl 0 rfl) ?_
        refine lv_iconst (v := 1) hx hb dX2_worth_48 (by decide) ?_
        refine qw_i (w2 := []) (va_runV (As := [.int 1]) (rest := []) ⟨hx, hb, hml, hown, hts⟩ (c_X2_found l D kI kJ kL a S0 G H.size 1 (by unfold vp_in; decide)) (cwV 1 hts gX2_worth_X2_found rfl rfl rfl (by decide +kernel) ⟨Nat.le_of_ble_eq_true rfl, Nat.le_of_ble_eq_true rfl⟩) (q_wV (w2 := []) hK hN (by rw [List.append_nil]; exact hP) (by rw [List.append_nil]; exact hD) (va_recv hK hP (ci := 5) (q0 := 0) rfl rfl)) rfl rfl hl.1 rfl (lv_room (Nat.le_of_ble_eq_true rfl)) dX2_worth_49 ⟨Nat.le_of_ble_eq_true rfl, Nat.le_of_ble_eq_true rfl⟩) (by rw [List.append_nil]; exact hP) (by rw [List.append_nil]; exact hD) hS hA (fun r_11 u_12 H locs h_10 hP hD hS => ?_)
        rw [List.append_nil] at hP hD
        obtain ⟨rfl, rfl⟩ := h_10
        have hP : va_P D vwCl (mW kI kJ a (xfd S0 1) G) H := hP
        have hD : va_D A (mW kI kJ a (xfd S0 1) G) := hD
        exact W.iret (v := (-30 - 1)) hx hb hr (fun t9 ht hW => ⟨⟨(-30 - 1), ((xfd S0 1), G), rfl, (by rw [← hS0]; exact ⟨by simp only [ms_worth, cif_t h_1, cif_t h_3, cif_f h_5, sU_s], by simp only [ms_worth, cif_t h_1, cif_t h_3, cif_f h_5, sU_s]⟩), by rw [ht]; exact hP, va_K.moved hW.alike hK, by rw [hAe]; exact hD⟩, hS.F ht⟩) hS.2.2 dX2_worth_52
    · refine lv_if_ne (tgt := 30) hx hb dX2_worth_24 (by decide) (fun c_13 => absurd c_13 (by decide)) (fun c_13 => ?_)
      refine lv_bipush (v := -2) hx hb dX2_worth_27 (by decide) ?_
      exact W.iret (v := (-2)) hx hb hr (fun t9 ht hW => ⟨⟨(-2), (S0, G), rfl, (by rw [← hS0]; exact ⟨by simp only [ms_worth, cif_t h_1, cif_f h_3, sU_s], by simp only [ms_worth, cif_t h_1, cif_f h_3, sU_s]⟩), by rw [ht]; exact hP, va_K.moved hW.alike hK, by rw [hAe]; exact hD⟩, hS.F ht⟩) hS.2.2 dX2_worth_29
  · refine lv_if_ne (tgt := 15) hx hb dX2_worth_10 (by decide) (fun c_14 => absurd c_14 (by decide)) (fun c_14 => ?_)
    refine lv_iconst (v := -1) hx hb dX2_worth_13 (by decide) ?_
    exact W.iret (v := (-1)) hx hb hr (fun t9 ht hW => ⟨⟨(-1), (S0, G), rfl, (by rw [← hS0]; exact ⟨by simp only [ms_worth, cif_f h_1, sU_s], by simp only [ms_worth, cif_f h_1, sU_s]⟩), by rw [ht]; exact hP, va_K.moved hW.alike hK, by rw [hAe]; exact hD⟩, hS.F ht⟩) hS.2.2 dX2_worth_14

set_option maxHeartbeats 4000000 in
set_option maxRecDepth 100000 in
theorem c_X2_date (l : Launch) (D : va_G) (kI kJ kL : ClassId) (a : Nat → Nat) (S : Nat → Nat → Int32) (G : Nat → Int64) (sz : Nat) (t : Int32) (n : Nat) (hn6 : S 6 0 = nI n) (hn : n ≤ 110) (hfm : ∀ i, i < 110 → vp_in (S 0 i) 19) : Met l yX2_date wsX2_date ({ frames := 2, cells := 0, slots := 0, locals := 46 }) (q_wP D (xTY kI kJ kL) (mW kI kJ a S G) sz [.ref (a 0), .int t]) (va_Qi (fun r (u : (Nat → Nat → Int32) × (Nat → Int64)) => r = (ms_date (sU S 16 0 0) t).1 ∧ u = ((ms_date (sU S 16 0 0) t).2, G)) (q_wB D (xTY kI kJ kL) (mW kI kJ a S G) sz (fun u : (Nat → Nat → Int32) × (Nat → Int64) => mW kI kJ a u.1 u.2)) (va_A (mW kI kJ a S G) sz)) 0 0 (va_A (mW kI kJ a S G) sz) := by
  refine Met.ofW (cc := cX2_date) (maxL := 2) (ret := (some .int)) (by decide) rfl ?_
  intro p e s m args below meth c s₁ Bd hml hv
  obtain ⟨rfl, hsz, hP, hK, hD0, hN⟩ := hv
  have hx := Bd.exec
  have hb := Bd.bytes
  have hr := Bd.returns
  have hts := atoms_spec (ws := wsX2_date) Bd.pre
  have hown : s.vm.findClass RX2 = some m.cls := findClass_of_methodNamed Bd.named
  have hlocks := Bd.notSynchronized
  subst hsz
  have hD := hD0.self (sz := s.heap.size)
  generalize hAe : va_A (mW kI kJ a S G) s.heap.size = A at hD ⊢
  have hA : ∀ q : Nat, s.heap.size ≤ q → A q := fun q h => by rw [← hAe]; exact Or.inr h
  have hS : va_S A s.heap s.heap [] := va_S.rf
  have hl := lv_entry ([.ref (a 0), .int t]) (n := 2) (Nat.le_of_ble_eq_true rfl)
  rw [lg_entry_eq]
  generalize (lg_sl ([.ref (a 0), .int t]) ++ List.replicate (2 - (lg_sl ([.ref (a 0), .int t])).length) Slot.unset).toArray = ls at hl ⊢
  have hl : lv_has ls 2 [(0, .ref (a 0)), (1, .int t)] := hl
  have hinX2 : ∀ w ∈ u_ws RX2 TX2 17, w ∈ wsX2_date := by decide +kernel
  refine lv_aload_n hx hb dX2_date_0 rfl (lv_at hl 0 rfl) ?_
  refine lv_iconst (v := 0) hx hb dX2_date_1 (by decide) ?_
  refine va_put (D := D) (ci := 5) (v := .int 0) (ty := .int) (C := RX2) (T := TX2) (N := 17) hx hb hts hinX2 tyX2 tyX2_ok nmX2 hown hK hP hD hS 0 rfl rfl 0 (by decide) (hts (.fieldLink RX2 59 "LoanCasesModel" "fault" "I") (by decide +kernel)) (fun _ h9 => h9) rfl (by decide +kernel) rfl rfl (Nat.le_of_ble_eq_true rfl) dX2_date_2 (fun H locs hP hD hS => ?_)
  have hP : va_P D vwCl (mW kI kJ a (sU S 16 0 0) G) H := hP
  have hD : va_D A (mW kI kJ a (sU S 16 0 0) G) := hD
  obtain ⟨S0, hS0⟩ : ∃ S0, S0 = sU S 16 0 0 := ⟨_, rfl⟩
  rw [← hS0] at hP hD
  have hn6 : S0 6 0 = nI n := by rw [hS0]; exact hn6
  have hfm : ∀ i, i < 110 → vp_in (S0 0 i) 19 := by rw [hS0]; exact hfm
  refine lv_aload_n hx hb dX2_date_5 rfl (lv_at hl 0 rfl) ?_
  refine lv_iload_n hx hb dX2_date_6 rfl (lv_at hl 1 rfl) ?_
  refine vp_callSi (W.runV (As := [.int t]) (rest := []) ⟨hx, hb, hml, hown, hts⟩ (c_X2_isThing l D kI kJ kL a S0 G t) (cwV 1 hts gX2_date_X2_isThing rfl rfl rfl (by decide +kernel) ⟨Nat.le_of_ble_eq_true rfl, Nat.le_of_ble_eq_true rfl⟩) (q_rV (w2 := []) hK hN (by rw [List.append_nil]; exact hP) (va_recv hK hP (ci := 5) (q0 := 0) rfl rfl)) rfl rfl hl.1 rfl (lv_room (Nat.le_of_ble_eq_true rfl)) dX2_date_7 ⟨Nat.le_of_ble_eq_true rfl, Nat.le_of_ble_eq_true rfl⟩) (fun r_h_1 h_1 => ?_)
  rcases h_1 with ⟨rfl, h_1⟩ | ⟨rfl, h_1⟩
  · refine lv_if_ne (tgt := 15) hx hb dX2_date_10 (by decide) (fun c_2 => ?_) (fun c_2 => absurd c_2 (by decide))
    refine lv_aload_n hx hb dX2_date_15 rfl (lv_at hl 0 rfl) ?_
    refine lv_iload_n hx hb dX2_date_16 rfl (lv_at hl 1 rfl) ?_
    refine lv_bipush (v := 19) hx hb dX2_date_17 (by decide) ?_
    refine vp_callSi (W.runV (As := [.int t, .int 19]) (rest := []) ⟨hx, hb, hml, hown, hts⟩ (c_X2_isOf l D kI kJ kL a S0 G t 19 (mT_in hn6 hn h_1) hfm) (cwV 2 hts gX2_date_X2_isOf rfl rfl rfl (by decide +kernel) ⟨Nat.le_of_ble_eq_true rfl, Nat.le_of_ble_eq_true rfl⟩) (q_rV (w2 := []) hK hN (by rw [List.append_nil]; exact hP) (va_recv hK hP (ci := 5) (q0 := 0) rfl rfl)) rfl rfl hl.1 rfl (lv_room (Nat.le_of_ble_eq_true rfl)) dX2_date_19 ⟨Nat.le_of_ble_eq_true rfl, Nat.le_of_ble_eq_true rfl⟩) (fun r_h_3 h_3 => ?_)
    rcases h_3 with ⟨rfl, h_3⟩ | ⟨rfl, h_3⟩
    · refine lv_if_ne (tgt := 33) hx hb dX2_date_22 (by decide) (fun c_4 => ?_) (fun c_4 => absurd c_4 (by decide))
      refine lv_aload_n hx hb dX2_date_33 rfl (lv_at hl 0 rfl) ?_
      refine va_get (D := D) (ci := 5) (v := .ref (a 1)) (C := RX2) (T := TX2) (N := 17) hx hb hts hinX2 hown hK hP 0 rfl rfl 2 (by decide) (hts (.fieldLink RX2 7 "LoanCasesModel" "forms" "[I") (by decide +kernel)) (fun _ h9 => h9) rfl dX2_date_34 ?_
      refine lv_iload_n hx hb dX2_date_37 rfl (lv_at hl 1 rfl) ?_
      refine va_iald (f := S0 0) hx hb hK hP 1 0 rfl rfl (mT_in hn6 hn h_1) dX2_date_38 ?_
      refine lv_iconst (v := 2) hx hb dX2_date_39 (by decide) ?_
      refine lv_icmp_ne (tgt := 54) hx hb dX2_date_40 (by decide) (fun c_5 => ?_) (fun c_5 => ?_)
      · refine lv_aload_n hx hb dX2_date_54 rfl (lv_at hl 0 rfl) ?_
        refine va_get (D := D) (ci := 5) (v := .ref (a 2)) (C := RX2) (T := TX2) (N := 17) hx hb hts hinX2 hown hK hP 0 rfl rfl 3 (by decide) (hts (.fieldLink RX2 13 "LoanCasesModel" "years" "[I") (by decide +kernel)) (fun _ h9 => h9) rfl dX2_date_55 ?_
        refine lv_iload_n hx hb dX2_date_58 rfl (lv_at hl 1 rfl) ?_
        refine va_iald (f := S0 1) hx hb hK hP 2 0 rfl rfl (mT_in hn6 hn h_1) dX2_date_59 ?_
        refine lv_iconst (v := 1) hx hb dX2_date_60 (by decide) ?_
        refine lv_isub hx hb dX2_date_61 ?_
        exact W.iret (v := ((S0 1 t.toNatClampNeg) - 1)) hx hb hr (fun t9 ht hW => ⟨⟨((S0 1 t.toNatClampNeg) - 1), (S0, G), rfl, (by rw [← hS0]; exact ⟨by simp only [ms_date, cif_t h_1, cif_t h_3, cif_f c_5, sU_s], by simp only [ms_date, cif_t h_1, cif_t h_3, cif_f c_5, sU_s]⟩), by rw [ht]; exact hP, va_K.moved hW.alike hK, by rw [hAe]; exact hD⟩, hS.F ht⟩) hS.2.2 dX2_date_62
      · refine lv_aload_n hx hb dX2_date_43 rfl (lv_at hl 0 rfl) ?_
        refine va_get (D := D) (ci := 5) (v := .ref (a 2)) (C := RX2) (T := TX2) (N := 17) hx hb hts hinX2 hown hK hP 0 rfl rfl 3 (by decide) (hts (.fieldLink RX2 13 "LoanCasesModel" "years" "[I") (by decide +kernel)) (fun _ h9 => h9) rfl dX2_date_44 ?_
        refine lv_iload_n hx hb dX2_date_47 rfl (lv_at hl 1 rfl) ?_
        refine va_iald (f := S0 1) hx hb hK hP 2 0 rfl rfl (mT_in hn6 hn h_1) dX2_date_48 ?_
        refine lv_iconst (v := 1) hx hb dX2_date_49 (by decide) ?_
        refine lv_iadd hx hb dX2_date_50 ?_
        refine lv_goto (tgt := 62) hx hb dX2_date_51 (by decide) ?_
        exact W.iret (v := ((S0 1 t.toNatClampNeg) + 1)) hx hb hr (fun t9 ht hW => ⟨⟨((S0 1 t.toNatClampNeg) + 1), (S0, G), rfl, (by rw [← hS0]; exact ⟨by simp only [ms_date, cif_t h_1, cif_t h_3, cif_t c_5, sU_s], by simp only [ms_date, cif_t h_1, cif_t h_3, cif_t c_5, sU_s]⟩), by rw [ht]; exact hP, va_K.moved hW.alike hK, by rw [hAe]; exact hD⟩, hS.F ht⟩) hS.2.2 dX2_date_62
    · refine lv_if_ne (tgt := 33) hx hb dX2_date_22 (by decide) (fun c_6 => absurd c_6 (by decide)) (fun c_6 => ?_)
      refine lv_aload_n hx hb dX2_date_25 rfl (lv_at hl 0 rfl) ?_
      refine lv_iconst (v := 1) hx hb dX2_date_26 (by decide) ?_
      refine qw_i (w2 := []) (va_runV (As := [.int 1]) (rest := []) ⟨hx, hb, hml, hown, hts⟩ (c_X2_found l D kI kJ kL a S0 G H.size 1 (by unfold vp_in; decide)) (cwV 1 hts gX2_date_X2_found rfl rfl rfl (by decide +kernel) ⟨Nat.le_of_ble_eq_true rfl, Nat.le_of_ble_eq_true rfl⟩) (q_wV (w2 := []) hK hN (by rw [List.append_nil]; exact hP) (by rw [List.append_nil]; exact hD) (va_recv hK hP (ci := 5) (q0 := 0) rfl rfl)) rfl rfl hl.1 rfl (lv_room (Nat.le_of_ble_eq_true rfl)) dX2_date_27 ⟨Nat.le_of_ble_eq_true rfl, Nat.le_of_ble_eq_true rfl⟩) (by rw [List.append_nil]; exact hP) (by rw [List.append_nil]; exact hD) hS hA (fun r_8 u_9 H locs h_7 hP hD hS => ?_)
      rw [List.append_nil] at hP hD
      obtain ⟨rfl, rfl⟩ := h_7
      have hP : va_P D vwCl (mW kI kJ a (xfd S0 1) G) H := hP
      have hD : va_D A (mW kI kJ a (xfd S0 1) G) := hD
      refine lv_goto (tgt := 62) hx hb dX2_date_30 (by decide) ?_
      exact W.iret (v := (-30 - 1)) hx hb hr (fun t9 ht hW => ⟨⟨(-30 - 1), ((xfd S0 1), G), rfl, (by rw [← hS0]; exact ⟨by simp only [ms_date, cif_t h_1, cif_f h_3, sU_s], by simp only [ms_date, cif_t h_1, cif_f h_3, sU_s]⟩), by rw [ht]; exact hP, va_K.moved hW.alike hK, by rw [hAe]; exact hD⟩, hS.F ht⟩) hS.2.2 dX2_date_62
  · refine lv_if_ne (tgt := 15) hx hb dX2_date_10 (by decide) (fun c_10 => absurd c_10 (by decide)) (fun c_10 => ?_)
    refine lv_iconst (v := -1) hx hb dX2_date_13 (by decide) ?_
    exact W.iret (v := (-1)) hx hb hr (fun t9 ht hW => ⟨⟨(-1), (S0, G), rfl, (by rw [← hS0]; exact ⟨by simp only [ms_date, cif_f h_1, sU_s], by simp only [ms_date, cif_f h_1, sU_s]⟩), by rw [ht]; exact hP, va_K.moved hW.alike hK, by rw [hAe]; exact hD⟩, hS.F ht⟩) hS.2.2 dX2_date_14

set_option maxHeartbeats 4000000 in
set_option maxRecDepth 100000 in
theorem c_X2_size (l : Launch) (D : va_G) (kI kJ kL : ClassId) (a : Nat → Nat) (S : Nat → Nat → Int32) (G : Nat → Int64) (sz : Nat) (t : Int32) (k : Int32) (n : Nat) (hn6 : S 6 0 = nI n) (hn : n ≤ 110) (hfm : ∀ i, i < 110 → vp_in (S 0 i) 19) : Met l yX2_size wsX2_size ({ frames := 3, cells := 0, slots := 0, locals := 70 }) (q_wP D (xTY kI kJ kL) (mW kI kJ a S G) sz [.ref (a 0), .int t, .int k]) (va_Qi (fun r (u : (Nat → Nat → Int32) × (Nat → Int64)) => r = (ms_size (sU S 16 0 0) t k).1 ∧ u = ((ms_size (sU S 16 0 0) t k).2, G)) (q_wB D (xTY kI kJ kL) (mW kI kJ a S G) sz (fun u : (Nat → Nat → Int32) × (Nat → Int64) => mW kI kJ a u.1 u.2)) (va_A (mW kI kJ a S G) sz)) 0 0 (va_A (mW kI kJ a S G) sz) := by
  refine Met.ofW (cc := cX2_size) (maxL := 4) (ret := (some .int)) (by decide) rfl ?_
  intro p e s m args below meth c s₁ Bd hml hv
  obtain ⟨rfl, hsz, hP, hK, hD0, hN⟩ := hv
  have hx := Bd.exec
  have hb := Bd.bytes
  have hr := Bd.returns
  have hts := atoms_spec (ws := wsX2_size) Bd.pre
  have hown : s.vm.findClass RX2 = some m.cls := findClass_of_methodNamed Bd.named
  have hlocks := Bd.notSynchronized
  subst hsz
  have hD := hD0.self (sz := s.heap.size)
  generalize hAe : va_A (mW kI kJ a S G) s.heap.size = A at hD ⊢
  have hA : ∀ q : Nat, s.heap.size ≤ q → A q := fun q h => by rw [← hAe]; exact Or.inr h
  have hS : va_S A s.heap s.heap [] := va_S.rf
  have hl := lv_entry ([.ref (a 0), .int t, .int k]) (n := 4) (Nat.le_of_ble_eq_true rfl)
  rw [lg_entry_eq]
  generalize (lg_sl ([.ref (a 0), .int t, .int k]) ++ List.replicate (4 - (lg_sl ([.ref (a 0), .int t, .int k])).length) Slot.unset).toArray = ls at hl ⊢
  have hl : lv_has ls 4 [(0, .ref (a 0)), (1, .int t), (2, .int k)] := hl
  have hinX2 : ∀ w ∈ u_ws RX2 TX2 17, w ∈ wsX2_size := by decide +kernel
  refine lv_aload_n hx hb dX2_size_0 rfl (lv_at hl 0 rfl) ?_
  refine lv_iconst (v := 0) hx hb dX2_size_1 (by decide) ?_
  refine va_put (D := D) (ci := 5) (v := .int 0) (ty := .int) (C := RX2) (T := TX2) (N := 17) hx hb hts hinX2 tyX2 tyX2_ok nmX2 hown hK hP hD hS 0 rfl rfl 0 (by decide) (hts (.fieldLink RX2 59 "LoanCasesModel" "fault" "I") (by decide +kernel)) (fun _ h9 => h9) rfl (by decide +kernel) rfl rfl (Nat.le_of_ble_eq_true rfl) dX2_size_2 (fun H locs hP hD hS => ?_)
  have hP : va_P D vwCl (mW kI kJ a (sU S 16 0 0) G) H := hP
  have hD : va_D A (mW kI kJ a (sU S 16 0 0) G) := hD
  obtain ⟨S0, hS0⟩ : ∃ S0, S0 = sU S 16 0 0 := ⟨_, rfl⟩
  rw [← hS0] at hP hD
  have hn6 : S0 6 0 = nI n := by rw [hS0]; exact hn6
  have hfm : ∀ i, i < 110 → vp_in (S0 0 i) 19 := by rw [hS0]; exact hfm
  refine lv_aload_n hx hb dX2_size_5 rfl (lv_at hl 0 rfl) ?_
  refine lv_iload_n hx hb dX2_size_6 rfl (lv_at hl 1 rfl) ?_
  refine lv_iload_n hx hb dX2_size_7 rfl (lv_at hl 2 rfl) ?_
  refine lv_iconst (v := 5) hx hb dX2_size_8 (by decide) ?_
  refine lv_bipush (v := 17) hx hb dX2_size_9 (by decide) ?_
  refine vp_callSi (W.runV (As := [.int t, .int k, .int 5, .int 17]) (rest := []) ⟨hx, hb, hml, hown, hts⟩ (c_X2_refusal l D kI kJ kL a S0 G t k 5 17) (cwV 4 hts gX2_size_X2_refusal rfl rfl rfl (by decide +kernel) ⟨Nat.le_of_ble_eq_true rfl, Nat.le_of_ble_eq_true rfl⟩) (q_rV (w2 := []) hK hN (by rw [List.append_nil]; exact hP) (va_recv hK hP (ci := 5) (q0 := 0) rfl rfl)) rfl rfl hl.1 rfl (lv_room (Nat.le_of_ble_eq_true rfl)) dX2_size_11 ⟨Nat.le_of_ble_eq_true rfl, Nat.le_of_ble_eq_true rfl⟩) (fun r_2 h_1 => ?_)
  subst h_1
  refine lv_istore_n (lv' := [(3, .int (mrf S0 t k 5 17)), (0, .ref (a 0)), (1, .int t), (2, .int k)]) hx hb dX2_size_14 rfl hl (by decide) rfl (fun ls hl => ?_)
  refine lv_iload_n hx hb dX2_size_15 rfl (lv_at hl 0 rfl) ?_
  refine lv_if_ge (tgt := 23) hx hb dX2_size_16 (by decide) (fun c_3 => ?_) (fun c_3 => ?_)
  · refine lv_aload_n hx hb dX2_size_23 rfl (lv_at hl 1 rfl) ?_
    refine lv_iload_n hx hb dX2_size_24 rfl (lv_at hl 2 rfl) ?_
    refine lv_iload_n hx hb dX2_size_25 rfl (lv_at hl 3 rfl) ?_
    refine vp_callSi (W.runV (As := [.int t, .int k]) (rest := []) ⟨hx, hb, hml, hown, hts⟩ (c_X2_isOf l D kI kJ kL a S0 G t k (mT_in hn6 hn (mrf_T c_3).1) hfm) (cwV 2 hts gX2_size_X2_isOf rfl rfl rfl (by decide +kernel) ⟨Nat.le_of_ble_eq_true rfl, Nat.le_of_ble_eq_true rfl⟩) (q_rV (w2 := []) hK hN (by rw [List.append_nil]; exact hP) (va_recv hK hP (ci := 5) (q0 := 0) rfl rfl)) rfl rfl hl.1 rfl (lv_room (Nat.le_of_ble_eq_true rfl)) dX2_size_26 ⟨Nat.le_of_ble_eq_true rfl, Nat.le_of_ble_eq_true rfl⟩) (fun r_h_4 h_4 => ?_)
    rcases h_4 with ⟨rfl, h_4⟩ | ⟨rfl, h_4⟩
    · refine lv_if_eq (tgt := 41) hx hb dX2_size_29 (by decide) (fun c_5 => absurd c_5 (by decide)) (fun c_5 => ?_)
      refine lv_aload_n hx hb dX2_size_32 rfl (lv_at hl 1 rfl) ?_
      refine va_get (D := D) (ci := 5) (v := .ref (a 3)) (C := RX2) (T := TX2) (N := 17) hx hb hts hinX2 hown hK hP 0 rfl rfl 4 (by decide) (hts (.fieldLink RX2 16 "LoanCasesModel" "sizes" "[I") (by decide +kernel)) (fun _ h9 => h9) rfl dX2_size_33 ?_
      refine lv_iload_n hx hb dX2_size_36 rfl (lv_at hl 2 rfl) ?_
      refine va_iald (f := S0 2) hx hb hK hP 3 0 rfl rfl (mT_in hn6 hn (mrf_T c_3).1) dX2_size_37 ?_
      refine lv_goto (tgt := 46) hx hb dX2_size_38 (by decide) ?_
      exact W.iret (v := (S0 2 t.toNatClampNeg)) hx hb hr (fun t9 ht hW => ⟨⟨(S0 2 t.toNatClampNeg), (S0, G), rfl, (by rw [← hS0]; exact ⟨by simp only [ms_size, cif_t c_3, cif_t h_4, sU_s], by simp only [ms_size, cif_t c_3, cif_t h_4, sU_s]⟩), by rw [ht]; exact hP, va_K.moved hW.alike hK, by rw [hAe]; exact hD⟩, hS.F ht⟩) hS.2.2 dX2_size_46
    · refine lv_if_eq (tgt := 41) hx hb dX2_size_29 (by decide) (fun c_6 => ?_) (fun c_6 => absurd c_6 (by decide))
      refine lv_aload_n hx hb dX2_size_41 rfl (lv_at hl 1 rfl) ?_
      refine lv_iconst (v := 1) hx hb dX2_size_42 (by decide) ?_
      refine qw_i (w2 := []) (va_runV (As := [.int 1]) (rest := []) ⟨hx, hb, hml, hown, hts⟩ (c_X2_found l D kI kJ kL a S0 G H.size 1 (by unfold vp_in; decide)) (cwV 1 hts gX2_size_X2_found rfl rfl rfl (by decide +kernel) ⟨Nat.le_of_ble_eq_true rfl, Nat.le_of_ble_eq_true rfl⟩) (q_wV (w2 := []) hK hN (by rw [List.append_nil]; exact hP) (by rw [List.append_nil]; exact hD) (va_recv hK hP (ci := 5) (q0 := 0) rfl rfl)) rfl rfl hl.1 rfl (lv_room (Nat.le_of_ble_eq_true rfl)) dX2_size_43 ⟨Nat.le_of_ble_eq_true rfl, Nat.le_of_ble_eq_true rfl⟩) (by rw [List.append_nil]; exact hP) (by rw [List.append_nil]; exact hD) hS hA (fun r_8 u_9 H locs h_7 hP hD hS => ?_)
      rw [List.append_nil] at hP hD
      obtain ⟨rfl, rfl⟩ := h_7
      have hP : va_P D vwCl (mW kI kJ a (xfd S0 1) G) H := hP
      have hD : va_D A (mW kI kJ a (xfd S0 1) G) := hD
      exact W.iret (v := (-30 - 1)) hx hb hr (fun t9 ht hW => ⟨⟨(-30 - 1), ((xfd S0 1), G), rfl, (by rw [← hS0]; exact ⟨by simp only [ms_size, cif_t c_3, cif_f h_4, sU_s], by simp only [ms_size, cif_t c_3, cif_f h_4, sU_s]⟩), by rw [ht]; exact hP, va_K.moved hW.alike hK, by rw [hAe]; exact hD⟩, hS.F ht⟩) hS.2.2 dX2_size_46
  · refine lv_iload_n hx hb dX2_size_19 rfl (lv_at hl 0 rfl) ?_
    refine lv_goto (tgt := 46) hx hb dX2_size_20 (by decide) ?_
    exact W.iret (v := (mrf S0 t k 5 17)) hx hb hr (fun t9 ht hW => ⟨⟨(mrf S0 t k 5 17), (S0, G), rfl, (by rw [← hS0]; exact ⟨by simp only [ms_size, cif_f c_3, sU_s], by simp only [ms_size, cif_f c_3, sU_s]⟩), by rw [ht]; exact hP, va_K.moved hW.alike hK, by rw [hAe]; exact hD⟩, hS.F ht⟩) hS.2.2 dX2_size_46

set_option maxHeartbeats 4000000 in
set_option maxRecDepth 100000 in
theorem c_X2_write (l : Launch) (D : va_G) (kI kJ kL : ClassId) (a : Nat → Nat) (S : Nat → Nat → Int32) (G : Nat → Int64) (sz : Nat) (t : Int32) (k : Int32) (i : Int32) (v : Int64) (n : Nat) (hn6 : S 6 0 = nI n) (hn : n ≤ 110) (hfm : ∀ i, i < 110 → vp_in (S 0 i) 19) (hsz : ∀ i, i < 110 → ∃ n : Nat, n ≤ 10 ∧ S 2 i = nI n) : Met l yX2_write wsX2_write ({ frames := 3, cells := 0, slots := 0, locals := 70 }) (q_wP D (xTY kI kJ kL) (mW kI kJ a S G) sz [.ref (a 0), .int t, .int k, .int i, .long v]) (va_Qi (fun r (u : (Nat → Nat → Int32) × (Nat → Int64)) => r = (ms_write (sU S 16 0 0) G t k i v).1 ∧ u = ((ms_write (sU S 16 0 0) G t k i v).2.1, (ms_write (sU S 16 0 0) G t k i v).2.2)) (q_wB D (xTY kI kJ kL) (mW kI kJ a S G) sz (fun u : (Nat → Nat → Int32) × (Nat → Int64) => mW kI kJ a u.1 u.2)) (va_A (mW kI kJ a S G) sz)) 0 0 (va_A (mW kI kJ a S G) sz) := by
  refine Met.ofW (cc := cX2_write) (maxL := 7) (ret := (some .int)) (by decide) rfl ?_
  intro p e s m args below meth c s₁ Bd hml hv
  obtain ⟨rfl, hsz, hP, hK, hD0, hN⟩ := hv
  have hx := Bd.exec
  have hb := Bd.bytes
  have hr := Bd.returns
  have hts := atoms_spec (ws := wsX2_write) Bd.pre
  have hown : s.vm.findClass RX2 = some m.cls := findClass_of_methodNamed Bd.named
  have hlocks := Bd.notSynchronized
  subst hsz
  have hD := hD0.self (sz := s.heap.size)
  generalize hAe : va_A (mW kI kJ a S G) s.heap.size = A at hD ⊢
  have hA : ∀ q : Nat, s.heap.size ≤ q → A q := fun q h => by rw [← hAe]; exact Or.inr h
  have hS : va_S A s.heap s.heap [] := va_S.rf
  have hl := lv_entry ([.ref (a 0), .int t, .int k, .int i, .long v]) (n := 7) (Nat.le_of_ble_eq_true rfl)
  rw [lg_entry_eq]
  generalize (lg_sl ([.ref (a 0), .int t, .int k, .int i, .long v]) ++ List.replicate (7 - (lg_sl ([.ref (a 0), .int t, .int k, .int i, .long v])).length) Slot.unset).toArray = ls at hl ⊢
  have hl : lv_has ls 7 [(0, .ref (a 0)), (1, .int t), (2, .int k), (3, .int i), (4, .long v)] := hl
  have hinX2 : ∀ w ∈ u_ws RX2 TX2 17, w ∈ wsX2_write := by decide +kernel
  refine lv_aload_n hx hb dX2_write_0 rfl (lv_at hl 0 rfl) ?_
  refine lv_iconst (v := 0) hx hb dX2_write_1 (by decide) ?_
  refine va_put (D := D) (ci := 5) (v := .int 0) (ty := .int) (C := RX2) (T := TX2) (N := 17) hx hb hts hinX2 tyX2 tyX2_ok nmX2 hown hK hP hD hS 0 rfl rfl 0 (by decide) (hts (.fieldLink RX2 59 "LoanCasesModel" "fault" "I") (by decide +kernel)) (fun _ h9 => h9) rfl (by decide +kernel) rfl rfl (Nat.le_of_ble_eq_true rfl) dX2_write_2 (fun H locs hP hD hS => ?_)
  have hP : va_P D vwCl (mW kI kJ a (sU S 16 0 0) G) H := hP
  have hD : va_D A (mW kI kJ a (sU S 16 0 0) G) := hD
  obtain ⟨S0, hS0⟩ : ∃ S0, S0 = sU S 16 0 0 := ⟨_, rfl⟩
  rw [← hS0] at hP hD
  have hn6 : S0 6 0 = nI n := by rw [hS0]; exact hn6
  have hfm : ∀ i, i < 110 → vp_in (S0 0 i) 19 := by rw [hS0]; exact hfm
  have hsz : ∀ i, i < 110 → ∃ n : Nat, n ≤ 10 ∧ S0 2 i = nI n := by rw [hS0]; exact hsz
  refine lv_aload_n hx hb dX2_write_5 rfl (lv_at hl 0 rfl) ?_
  refine lv_iload_n hx hb dX2_write_6 rfl (lv_at hl 1 rfl) ?_
  refine lv_iload_n hx hb dX2_write_7 rfl (lv_at hl 2 rfl) ?_
  refine lv_iconst (v := 5) hx hb dX2_write_8 (by decide) ?_
  refine lv_bipush (v := 8) hx hb dX2_write_9 (by decide) ?_
  refine vp_callSi (W.runV (As := [.int t, .int k, .int 5, .int 8]) (rest := []) ⟨hx, hb, hml, hown, hts⟩ (c_X2_refusal l D kI kJ kL a S0 G t k 5 8) (cwV 4 hts gX2_write_X2_refusal rfl rfl rfl (by decide +kernel) ⟨Nat.le_of_ble_eq_true rfl, Nat.le_of_ble_eq_true rfl⟩) (q_rV (w2 := []) hK hN (by rw [List.append_nil]; exact hP) (va_recv hK hP (ci := 5) (q0 := 0) rfl rfl)) rfl rfl hl.1 rfl (lv_room (Nat.le_of_ble_eq_true rfl)) dX2_write_11 ⟨Nat.le_of_ble_eq_true rfl, Nat.le_of_ble_eq_true rfl⟩) (fun r_2 h_1 => ?_)
  subst h_1
  refine lv_istore (lv' := [(6, .int (mrf S0 t k 5 8)), (0, .ref (a 0)), (1, .int t), (2, .int k), (3, .int i), (4, .long v)]) hx hb dX2_write_14 hl (by decide) rfl (fun ls hl => ?_)
  refine lv_iload hx hb dX2_write_16 (lv_at hl 0 rfl) ?_
  refine lv_if_ge (tgt := 24) hx hb dX2_write_18 (by decide) (fun c_3 => ?_) (fun c_3 => ?_)
  · refine lv_iload_n hx hb dX2_write_24 rfl (lv_at hl 3 rfl) ?_
    refine lv_bipush (v := 8) hx hb dX2_write_25 (by decide) ?_
    refine lv_icmp_ne (tgt := 47) hx hb dX2_write_27 (by decide) (fun c_4 => ?_) (fun c_4 => ?_)
    · refine lv_aload_n hx hb dX2_write_47 rfl (lv_at hl 1 rfl) ?_
      refine lv_iload_n hx hb dX2_write_48 rfl (lv_at hl 2 rfl) ?_
      refine lv_iload_n hx hb dX2_write_49 rfl (lv_at hl 3 rfl) ?_
      refine vp_callSi (W.runV (As := [.int t, .int k]) (rest := []) ⟨hx, hb, hml, hown, hts⟩ (c_X2_isOf l D kI kJ kL a S0 G t k (mT_in hn6 hn (mrf_T c_3).1) hfm) (cwV 2 hts gX2_write_X2_isOf rfl rfl rfl (by decide +kernel) ⟨Nat.le_of_ble_eq_true rfl, Nat.le_of_ble_eq_true rfl⟩) (q_rV (w2 := []) hK hN (by rw [List.append_nil]; exact hP) (va_recv hK hP (ci := 5) (q0 := 0) rfl rfl)) rfl rfl hl.1 rfl (lv_room (Nat.le_of_ble_eq_true rfl)) dX2_write_50 ⟨Nat.le_of_ble_eq_true rfl, Nat.le_of_ble_eq_true rfl⟩) (fun r_h_5 h_5 => ?_)
      rcases h_5 with ⟨rfl, h_5⟩ | ⟨rfl, h_5⟩
      · refine lv_if_ne (tgt := 62) hx hb dX2_write_53 (by decide) (fun c_6 => ?_) (fun c_6 => absurd c_6 (by decide))
        refine lv_iload_n hx hb dX2_write_62 rfl (lv_at hl 4 rfl) ?_
        refine lv_i2l hx hb dX2_write_63 rfl ?_
        refine lv_lconst (v := 0) hx hb dX2_write_64 (by decide) ?_
        refine lv_aload_n hx hb dX2_write_65 rfl (lv_at hl 1 rfl) ?_
        refine va_get (D := D) (ci := 5) (v := .ref (a 3)) (C := RX2) (T := TX2) (N := 17) hx hb hts hinX2 hown hK hP 0 rfl rfl 4 (by decide) (hts (.fieldLink RX2 16 "LoanCasesModel" "sizes" "[I") (by decide +kernel)) (fun _ h9 => h9) rfl dX2_write_66 ?_
        refine lv_iload_n hx hb dX2_write_69 rfl (lv_at hl 2 rfl) ?_
        refine va_iald (f := S0 2) hx hb hK hP 3 0 rfl rfl (mT_in hn6 hn (mrf_T c_3).1) dX2_write_70 ?_
        refine lv_iconst (v := 1) hx hb dX2_write_71 (by decide) ?_
        refine lv_isub hx hb dX2_write_72 ?_
        refine lv_i2l hx hb dX2_write_73 rfl ?_
        refine vp_callSi (W.runS (As := [.long (i.toInt64), .long 0, .long (((S0 2 t.toNatClampNeg) - 1).toInt64)]) (rest := []) ⟨hx, hb, hml, hown, hts⟩ (c_X2_in l D kI kJ kL (i.toInt64) 0 (((S0 2 t.toNatClampNeg) - 1).toInt64)) (va_cwS 3 hts gX2_write_X2_in rfl rfl rfl (by decide +kernel) ⟨Nat.le_of_ble_eq_true rfl, Nat.le_of_ble_eq_true rfl⟩) (q_rS0 hK hN) rfl rfl hl.1 rfl (lv_room (Nat.le_of_ble_eq_true rfl)) dX2_write_74 ⟨Nat.le_of_ble_eq_true rfl, Nat.le_of_ble_eq_true rfl⟩) (fun r_h_7 h_7 => ?_)
        rcases h_7 with ⟨rfl, h_7⟩ | ⟨rfl, h_7⟩
        · refine lv_if_ne (tgt := 86) hx hb dX2_write_77 (by decide) (fun c_8 => ?_) (fun c_8 => absurd c_8 (by decide))
          refine lv_aload_n hx hb dX2_write_86 rfl (lv_at hl 1 rfl) ?_
          refine va_get (D := D) (ci := 5) (v := .ref (a 4)) (C := RX2) (T := TX2) (N := 17) hx hb hts hinX2 hown hK hP 0 rfl rfl 5 (by decide) (hts (.fieldLink RX2 19 "LoanCasesModel" "numbers" "[J") (by decide +kernel)) (fun _ h9 => h9) rfl dX2_write_87 ?_
          refine lv_bipush (v := 10) hx hb dX2_write_90 (by decide) ?_
          refine lv_iload_n hx hb dX2_write_92 rfl (lv_at hl 2 rfl) ?_
          refine lv_imul hx hb dX2_write_93 ?_
          refine lv_iload_n hx hb dX2_write_94 rfl (lv_at hl 4 rfl) ?_
          refine lv_iadd hx hb dX2_write_95 ?_
          refine lv_iload_n hx hb dX2_write_96 rfl (lv_at hl 3 rfl) ?_
          refine lv_lload hx hb dX2_write_97 (lv_at hl 5 rfl) ?_
          refine vp_callSl (W.runS (As := [.int k, .long v]) (rest := [.int ((10 * t) + i), .ref (a 4)]) ⟨hx, hb, hml, hown, hts⟩ (c_X2_low l D kI kJ kL k v) (va_cwS 2 hts gX2_write_X2_low rfl rfl rfl (by decide +kernel) ⟨Nat.le_of_ble_eq_true rfl, Nat.le_of_ble_eq_true rfl⟩) (q_rS0 hK hN) rfl rfl hl.1 rfl (lv_room (Nat.le_of_ble_eq_true rfl)) dX2_write_99 ⟨Nat.le_of_ble_eq_true rfl, Nat.le_of_ble_eq_true rfl⟩) (fun r_10 h_9 => ?_)
          subst h_9
          refine va_last hx hb hK hP hD hS 4 1 rfl rfl (mpl_in (mT_in hn6 hn (mrf_T c_3).1) h_7 (hsz _ (vin_lt (mT_in hn6 hn (mrf_T c_3).1)))) dX2_write_102 (fun H locs hP hD hS => ?_)
          have hP : va_P D vwCl (mW kI kJ a S0 (vp_updL G (((10 * t) + i).toNatClampNeg) (mlo k v))) H := hP
          have hD : va_D A (mW kI kJ a S0 (vp_updL G (((10 * t) + i).toNatClampNeg) (mlo k v))) := hD
          refine lv_iconst (v := 1) hx hb dX2_write_103 (by decide) ?_
          exact W.iret (v := 1) hx hb hr (fun t9 ht hW => ⟨⟨1, (S0, (vp_updL G (((10 * t) + i).toNatClampNeg) (mlo k v))), rfl, (by rw [← hS0]; exact ⟨by simp only [ms_write, ms_write2, mPl, cif_t c_3, cif_f c_4, cif_t h_5, cif_t h_7, sU_s], by simp only [ms_write, ms_write2, mPl, cif_t c_3, cif_f c_4, cif_t h_5, cif_t h_7, sU_s]⟩), by rw [ht]; exact hP, va_K.moved hW.alike hK, by rw [hAe]; exact hD⟩, hS.F ht⟩) hS.2.2 dX2_write_104
        · refine lv_if_ne (tgt := 86) hx hb dX2_write_77 (by decide) (fun c_11 => absurd c_11 (by decide)) (fun c_11 => ?_)
          refine lv_aload_n hx hb dX2_write_80 rfl (lv_at hl 1 rfl) ?_
          refine lv_iconst (v := 3) hx hb dX2_write_81 (by decide) ?_
          refine qw_i (w2 := []) (va_runV (As := [.int 3]) (rest := []) ⟨hx, hb, hml, hown, hts⟩ (c_X2_found l D kI kJ kL a S0 G H.size 3 (by unfold vp_in; decide)) (cwV 1 hts gX2_write_X2_found rfl rfl rfl (by decide +kernel) ⟨Nat.le_of_ble_eq_true rfl, Nat.le_of_ble_eq_true rfl⟩) (q_wV (w2 := []) hK hN (by rw [List.append_nil]; exact hP) (by rw [List.append_nil]; exact hD) (va_recv hK hP (ci := 5) (q0 := 0) rfl rfl)) rfl rfl hl.1 rfl (lv_room (Nat.le_of_ble_eq_true rfl)) dX2_write_82 ⟨Nat.le_of_ble_eq_true rfl, Nat.le_of_ble_eq_true rfl⟩) (by rw [List.append_nil]; exact hP) (by rw [List.append_nil]; exact hD) hS hA (fun r_13 u_14 H locs h_12 hP hD hS => ?_)
          rw [List.append_nil] at hP hD
          obtain ⟨rfl, rfl⟩ := h_12
          have hP : va_P D vwCl (mW kI kJ a (xfd S0 3) G) H := hP
          have hD : va_D A (mW kI kJ a (xfd S0 3) G) := hD
          exact W.iret (v := (-30 - 3)) hx hb hr (fun t9 ht hW => ⟨⟨(-30 - 3), ((xfd S0 3), G), rfl, (by rw [← hS0]; exact ⟨by simp only [ms_write, ms_write2, mPl, cif_t c_3, cif_f c_4, cif_t h_5, cif_f h_7, sU_s], by simp only [ms_write, ms_write2, mPl, cif_t c_3, cif_f c_4, cif_t h_5, cif_f h_7, sU_s]⟩), by rw [ht]; exact hP, va_K.moved hW.alike hK, by rw [hAe]; exact hD⟩, hS.F ht⟩) hS.2.2 dX2_write_85
      · refine lv_if_ne (tgt := 62) hx hb dX2_write_53 (by decide) (fun c_15 => absurd c_15 (by decide)) (fun c_15 => ?_)
        refine lv_aload_n hx hb dX2_write_56 rfl (lv_at hl 1 rfl) ?_
        refine lv_iconst (v := 1) hx hb dX2_write_57 (by decide) ?_
        refine qw_i (w2 := []) (va_runV (As := [.int 1]) (rest := []) ⟨hx, hb, hml, hown, hts⟩ (c_X2_found l D kI kJ kL a S0 G H.size 1 (by unfold vp_in; decide)) (cwV 1 hts gX2_write_X2_found rfl rfl rfl (by decide +kernel) ⟨Nat.le_of_ble_eq_true rfl, Nat.le_of_ble_eq_true rfl⟩) (q_wV (w2 := []) hK hN (by rw [List.append_nil]; exact hP) (by rw [List.append_nil]; exact hD) (va_recv hK hP (ci := 5) (q0 := 0) rfl rfl)) rfl rfl hl.1 rfl (lv_room (Nat.le_of_ble_eq_true rfl)) dX2_write_58 ⟨Nat.le_of_ble_eq_true rfl, Nat.le_of_ble_eq_true rfl⟩) (by rw [List.append_nil]; exact hP) (by rw [List.append_nil]; exact hD) hS hA (fun r_17 u_18 H locs h_16 hP hD hS => ?_)
        rw [List.append_nil] at hP hD
        obtain ⟨rfl, rfl⟩ := h_16
        have hP : va_P D vwCl (mW kI kJ a (xfd S0 1) G) H := hP
        have hD : va_D A (mW kI kJ a (xfd S0 1) G) := hD
        exact W.iret (v := (-30 - 1)) hx hb hr (fun t9 ht hW => ⟨⟨(-30 - 1), ((xfd S0 1), G), rfl, (by rw [← hS0]; exact ⟨by simp only [ms_write, ms_write2, mPl, cif_t c_3, cif_f c_4, cif_f h_5, sU_s], by simp only [ms_write, ms_write2, mPl, cif_t c_3, cif_f c_4, cif_f h_5, sU_s]⟩), by rw [ht]; exact hP, va_K.moved hW.alike hK, by rw [hAe]; exact hD⟩, hS.F ht⟩) hS.2.2 dX2_write_61
    · refine lv_lload hx hb dX2_write_30 (lv_at hl 5 rfl) ?_
      refine lv_ldc2 hx hb hown (hts (.constantLong RX2 110 (-2147483648)) (by decide +kernel)) dX2_write_32 ?_
      refine lv_ldc2 hx hb hown (hts (.constantLong RX2 112 (2147483647)) (by decide +kernel)) dX2_write_35 ?_
      refine vp_callSi (W.runS (As := [.long v, .long (-2147483648), .long 2147483647]) (rest := []) ⟨hx, hb, hml, hown, hts⟩ (c_X2_in l D kI kJ kL v (-2147483648) 2147483647) (va_cwS 3 hts gX2_write_X2_in rfl rfl rfl (by decide +kernel) ⟨Nat.le_of_ble_eq_true rfl, Nat.le_of_ble_eq_true rfl⟩) (q_rS0 hK hN) rfl rfl hl.1 rfl (lv_room (Nat.le_of_ble_eq_true rfl)) dX2_write_38 ⟨Nat.le_of_ble_eq_true rfl, Nat.le_of_ble_eq_true rfl⟩) (fun r_h_19 h_19 => ?_)
      rcases h_19 with ⟨rfl, h_19⟩ | ⟨rfl, h_19⟩
      · refine lv_if_ne (tgt := 47) hx hb dX2_write_41 (by decide) (fun c_20 => ?_) (fun c_20 => absurd c_20 (by decide))
        refine lv_aload_n hx hb dX2_write_47 rfl (lv_at hl 1 rfl) ?_
        refine lv_iload_n hx hb dX2_write_48 rfl (lv_at hl 2 rfl) ?_
        refine lv_iload_n hx hb dX2_write_49 rfl (lv_at hl 3 rfl) ?_
        refine vp_callSi (W.runV (As := [.int t, .int k]) (rest := []) ⟨hx, hb, hml, hown, hts⟩ (c_X2_isOf l D kI kJ kL a S0 G t k (mT_in hn6 hn (mrf_T c_3).1) hfm) (cwV 2 hts gX2_write_X2_isOf rfl rfl rfl (by decide +kernel) ⟨Nat.le_of_ble_eq_true rfl, Nat.le_of_ble_eq_true rfl⟩) (q_rV (w2 := []) hK hN (by rw [List.append_nil]; exact hP) (va_recv hK hP (ci := 5) (q0 := 0) rfl rfl)) rfl rfl hl.1 rfl (lv_room (Nat.le_of_ble_eq_true rfl)) dX2_write_50 ⟨Nat.le_of_ble_eq_true rfl, Nat.le_of_ble_eq_true rfl⟩) (fun r_h_21 h_21 => ?_)
        rcases h_21 with ⟨rfl, h_21⟩ | ⟨rfl, h_21⟩
        · refine lv_if_ne (tgt := 62) hx hb dX2_write_53 (by decide) (fun c_22 => ?_) (fun c_22 => absurd c_22 (by decide))
          refine lv_iload_n hx hb dX2_write_62 rfl (lv_at hl 4 rfl) ?_
          refine lv_i2l hx hb dX2_write_63 rfl ?_
          refine lv_lconst (v := 0) hx hb dX2_write_64 (by decide) ?_
          refine lv_aload_n hx hb dX2_write_65 rfl (lv_at hl 1 rfl) ?_
          refine va_get (D := D) (ci := 5) (v := .ref (a 3)) (C := RX2) (T := TX2) (N := 17) hx hb hts hinX2 hown hK hP 0 rfl rfl 4 (by decide) (hts (.fieldLink RX2 16 "LoanCasesModel" "sizes" "[I") (by decide +kernel)) (fun _ h9 => h9) rfl dX2_write_66 ?_
          refine lv_iload_n hx hb dX2_write_69 rfl (lv_at hl 2 rfl) ?_
          refine va_iald (f := S0 2) hx hb hK hP 3 0 rfl rfl (mT_in hn6 hn (mrf_T c_3).1) dX2_write_70 ?_
          refine lv_iconst (v := 1) hx hb dX2_write_71 (by decide) ?_
          refine lv_isub hx hb dX2_write_72 ?_
          refine lv_i2l hx hb dX2_write_73 rfl ?_
          refine vp_callSi (W.runS (As := [.long (i.toInt64), .long 0, .long (((S0 2 t.toNatClampNeg) - 1).toInt64)]) (rest := []) ⟨hx, hb, hml, hown, hts⟩ (c_X2_in l D kI kJ kL (i.toInt64) 0 (((S0 2 t.toNatClampNeg) - 1).toInt64)) (va_cwS 3 hts gX2_write_X2_in rfl rfl rfl (by decide +kernel) ⟨Nat.le_of_ble_eq_true rfl, Nat.le_of_ble_eq_true rfl⟩) (q_rS0 hK hN) rfl rfl hl.1 rfl (lv_room (Nat.le_of_ble_eq_true rfl)) dX2_write_74 ⟨Nat.le_of_ble_eq_true rfl, Nat.le_of_ble_eq_true rfl⟩) (fun r_h_23 h_23 => ?_)
          rcases h_23 with ⟨rfl, h_23⟩ | ⟨rfl, h_23⟩
          · refine lv_if_ne (tgt := 86) hx hb dX2_write_77 (by decide) (fun c_24 => ?_) (fun c_24 => absurd c_24 (by decide))
            refine lv_aload_n hx hb dX2_write_86 rfl (lv_at hl 1 rfl) ?_
            refine va_get (D := D) (ci := 5) (v := .ref (a 4)) (C := RX2) (T := TX2) (N := 17) hx hb hts hinX2 hown hK hP 0 rfl rfl 5 (by decide) (hts (.fieldLink RX2 19 "LoanCasesModel" "numbers" "[J") (by decide +kernel)) (fun _ h9 => h9) rfl dX2_write_87 ?_
            refine lv_bipush (v := 10) hx hb dX2_write_90 (by decide) ?_
            refine lv_iload_n hx hb dX2_write_92 rfl (lv_at hl 2 rfl) ?_
            refine lv_imul hx hb dX2_write_93 ?_
            refine lv_iload_n hx hb dX2_write_94 rfl (lv_at hl 4 rfl) ?_
            refine lv_iadd hx hb dX2_write_95 ?_
            refine lv_iload_n hx hb dX2_write_96 rfl (lv_at hl 3 rfl) ?_
            refine lv_lload hx hb dX2_write_97 (lv_at hl 5 rfl) ?_
            refine vp_callSl (W.runS (As := [.int k, .long v]) (rest := [.int ((10 * t) + i), .ref (a 4)]) ⟨hx, hb, hml, hown, hts⟩ (c_X2_low l D kI kJ kL k v) (va_cwS 2 hts gX2_write_X2_low rfl rfl rfl (by decide +kernel) ⟨Nat.le_of_ble_eq_true rfl, Nat.le_of_ble_eq_true rfl⟩) (q_rS0 hK hN) rfl rfl hl.1 rfl (lv_room (Nat.le_of_ble_eq_true rfl)) dX2_write_99 ⟨Nat.le_of_ble_eq_true rfl, Nat.le_of_ble_eq_true rfl⟩) (fun r_26 h_25 => ?_)
            subst h_25
            refine va_last hx hb hK hP hD hS 4 1 rfl rfl (mpl_in (mT_in hn6 hn (mrf_T c_3).1) h_23 (hsz _ (vin_lt (mT_in hn6 hn (mrf_T c_3).1)))) dX2_write_102 (fun H locs hP hD hS => ?_)
            have hP : va_P D vwCl (mW kI kJ a S0 (vp_updL G (((10 * t) + i).toNatClampNeg) (mlo k v))) H := hP
            have hD : va_D A (mW kI kJ a S0 (vp_updL G (((10 * t) + i).toNatClampNeg) (mlo k v))) := hD
            refine lv_iconst (v := 1) hx hb dX2_write_103 (by decide) ?_
            exact W.iret (v := 1) hx hb hr (fun t9 ht hW => ⟨⟨1, (S0, (vp_updL G (((10 * t) + i).toNatClampNeg) (mlo k v))), rfl, (by rw [← hS0]; exact ⟨by simp only [ms_write, ms_write2, mPl, cif_t c_3, cif_t c_4, cif_t h_19, cif_t h_21, cif_t h_23, sU_s], by simp only [ms_write, ms_write2, mPl, cif_t c_3, cif_t c_4, cif_t h_19, cif_t h_21, cif_t h_23, sU_s]⟩), by rw [ht]; exact hP, va_K.moved hW.alike hK, by rw [hAe]; exact hD⟩, hS.F ht⟩) hS.2.2 dX2_write_104
          · refine lv_if_ne (tgt := 86) hx hb dX2_write_77 (by decide) (fun c_27 => absurd c_27 (by decide)) (fun c_27 => ?_)
            refine lv_aload_n hx hb dX2_write_80 rfl (lv_at hl 1 rfl) ?_
            refine lv_iconst (v := 3) hx hb dX2_write_81 (by decide) ?_
            refine qw_i (w2 := []) (va_runV (As := [.int 3]) (rest := []) ⟨hx, hb, hml, hown, hts⟩ (c_X2_found l D kI kJ kL a S0 G H.size 3 (by unfold vp_in; decide)) (cwV 1 hts gX2_write_X2_found rfl rfl rfl (by decide +kernel) ⟨Nat.le_of_ble_eq_true rfl, Nat.le_of_ble_eq_true rfl⟩) (q_wV (w2 := []) hK hN (by rw [List.append_nil]; exact hP) (by rw [List.append_nil]; exact hD) (va_recv hK hP (ci := 5) (q0 := 0) rfl rfl)) rfl rfl hl.1 rfl (lv_room (Nat.le_of_ble_eq_true rfl)) dX2_write_82 ⟨Nat.le_of_ble_eq_true rfl, Nat.le_of_ble_eq_true rfl⟩) (by rw [List.append_nil]; exact hP) (by rw [List.append_nil]; exact hD) hS hA (fun r_29 u_30 H locs h_28 hP hD hS => ?_)
            rw [List.append_nil] at hP hD
            obtain ⟨rfl, rfl⟩ := h_28
            have hP : va_P D vwCl (mW kI kJ a (xfd S0 3) G) H := hP
            have hD : va_D A (mW kI kJ a (xfd S0 3) G) := hD
            exact W.iret (v := (-30 - 3)) hx hb hr (fun t9 ht hW => ⟨⟨(-30 - 3), ((xfd S0 3), G), rfl, (by rw [← hS0]; exact ⟨by simp only [ms_write, ms_write2, mPl, cif_t c_3, cif_t c_4, cif_t h_19, cif_t h_21, cif_f h_23, sU_s], by simp only [ms_write, ms_write2, mPl, cif_t c_3, cif_t c_4, cif_t h_19, cif_t h_21, cif_f h_23, sU_s]⟩), by rw [ht]; exact hP, va_K.moved hW.alike hK, by rw [hAe]; exact hD⟩, hS.F ht⟩) hS.2.2 dX2_write_85
        · refine lv_if_ne (tgt := 62) hx hb dX2_write_53 (by decide) (fun c_31 => absurd c_31 (by decide)) (fun c_31 => ?_)
          refine lv_aload_n hx hb dX2_write_56 rfl (lv_at hl 1 rfl) ?_
          refine lv_iconst (v := 1) hx hb dX2_write_57 (by decide) ?_
          refine qw_i (w2 := []) (va_runV (As := [.int 1]) (rest := []) ⟨hx, hb, hml, hown, hts⟩ (c_X2_found l D kI kJ kL a S0 G H.size 1 (by unfold vp_in; decide)) (cwV 1 hts gX2_write_X2_found rfl rfl rfl (by decide +kernel) ⟨Nat.le_of_ble_eq_true rfl, Nat.le_of_ble_eq_true rfl⟩) (q_wV (w2 := []) hK hN (by rw [List.append_nil]; exact hP) (by rw [List.append_nil]; exact hD) (va_recv hK hP (ci := 5) (q0 := 0) rfl rfl)) rfl rfl hl.1 rfl (lv_room (Nat.le_of_ble_eq_true rfl)) dX2_write_58 ⟨Nat.le_of_ble_eq_true rfl, Nat.le_of_ble_eq_true rfl⟩) (by rw [List.append_nil]; exact hP) (by rw [List.append_nil]; exact hD) hS hA (fun r_33 u_34 H locs h_32 hP hD hS => ?_)
          rw [List.append_nil] at hP hD
          obtain ⟨rfl, rfl⟩ := h_32
          have hP : va_P D vwCl (mW kI kJ a (xfd S0 1) G) H := hP
          have hD : va_D A (mW kI kJ a (xfd S0 1) G) := hD
          exact W.iret (v := (-30 - 1)) hx hb hr (fun t9 ht hW => ⟨⟨(-30 - 1), ((xfd S0 1), G), rfl, (by rw [← hS0]; exact ⟨by simp only [ms_write, ms_write2, mPl, cif_t c_3, cif_t c_4, cif_t h_19, cif_f h_21, sU_s], by simp only [ms_write, ms_write2, mPl, cif_t c_3, cif_t c_4, cif_t h_19, cif_f h_21, sU_s]⟩), by rw [ht]; exact hP, va_K.moved hW.alike hK, by rw [hAe]; exact hD⟩, hS.F ht⟩) hS.2.2 dX2_write_61
      · refine lv_if_ne (tgt := 47) hx hb dX2_write_41 (by decide) (fun c_35 => absurd c_35 (by decide)) (fun c_35 => ?_)
        refine lv_bipush (v := -2) hx hb dX2_write_44 (by decide) ?_
        exact W.iret (v := (-2)) hx hb hr (fun t9 ht hW => ⟨⟨(-2), (S0, G), rfl, (by rw [← hS0]; exact ⟨by simp only [ms_write, ms_write2, mPl, cif_t c_3, cif_t c_4, cif_f h_19, sU_s], by simp only [ms_write, ms_write2, mPl, cif_t c_3, cif_t c_4, cif_f h_19, sU_s]⟩), by rw [ht]; exact hP, va_K.moved hW.alike hK, by rw [hAe]; exact hD⟩, hS.F ht⟩) hS.2.2 dX2_write_46
  · refine lv_iload hx hb dX2_write_21 (lv_at hl 0 rfl) ?_
    exact W.iret (v := (mrf S0 t k 5 8)) hx hb hr (fun t9 ht hW => ⟨⟨(mrf S0 t k 5 8), (S0, G), rfl, (by rw [← hS0]; exact ⟨by simp only [ms_write, ms_write2, mPl, cif_f c_3, sU_s], by simp only [ms_write, ms_write2, mPl, cif_f c_3, sU_s]⟩), by rw [ht]; exact hP, va_K.moved hW.alike hK, by rw [hAe]; exact hD⟩, hS.F ht⟩) hS.2.2 dX2_write_23

set_option maxHeartbeats 4000000 in
set_option maxRecDepth 100000 in
theorem c_X2_at (l : Launch) (D : va_G) (kI kJ kL : ClassId) (a : Nat → Nat) (S : Nat → Nat → Int32) (G : Nat → Int64) (sz : Nat) (t : Int32) (k : Int32) (i : Int32) (n : Nat) (hn6 : S 6 0 = nI n) (hn : n ≤ 110) (hfm : ∀ i, i < 110 → vp_in (S 0 i) 19) (hsz : ∀ i, i < 110 → ∃ n : Nat, n ≤ 10 ∧ S 2 i = nI n) : Met l yX2_at wsX2_at ({ frames := 3, cells := 0, slots := 0, locals := 70 }) (q_wP D (xTY kI kJ kL) (mW kI kJ a S G) sz [.ref (a 0), .int t, .int k, .int i]) (va_Qi (fun r (u : (Nat → Nat → Int32) × (Nat → Int64)) => r = (ms_at (sU S 16 0 0) t k i).1 ∧ u = ((ms_at (sU S 16 0 0) t k i).2, G)) (q_wB D (xTY kI kJ kL) (mW kI kJ a S G) sz (fun u : (Nat → Nat → Int32) × (Nat → Int64) => mW kI kJ a u.1 u.2)) (va_A (mW kI kJ a S G) sz)) 0 0 (va_A (mW kI kJ a S G) sz) := by
  refine Met.ofW (cc := cX2_at) (maxL := 5) (ret := (some .int)) (by decide) rfl ?_
  intro p e s m args below meth c s₁ Bd hml hv
  obtain ⟨rfl, hsz, hP, hK, hD0, hN⟩ := hv
  have hx := Bd.exec
  have hb := Bd.bytes
  have hr := Bd.returns
  have hts := atoms_spec (ws := wsX2_at) Bd.pre
  have hown : s.vm.findClass RX2 = some m.cls := findClass_of_methodNamed Bd.named
  have hlocks := Bd.notSynchronized
  subst hsz
  have hD := hD0.self (sz := s.heap.size)
  generalize hAe : va_A (mW kI kJ a S G) s.heap.size = A at hD ⊢
  have hA : ∀ q : Nat, s.heap.size ≤ q → A q := fun q h => by rw [← hAe]; exact Or.inr h
  have hS : va_S A s.heap s.heap [] := va_S.rf
  have hl := lv_entry ([.ref (a 0), .int t, .int k, .int i]) (n := 5) (Nat.le_of_ble_eq_true rfl)
  rw [lg_entry_eq]
  generalize (lg_sl ([.ref (a 0), .int t, .int k, .int i]) ++ List.replicate (5 - (lg_sl ([.ref (a 0), .int t, .int k, .int i])).length) Slot.unset).toArray = ls at hl ⊢
  have hl : lv_has ls 5 [(0, .ref (a 0)), (1, .int t), (2, .int k), (3, .int i)] := hl
  have hinX2 : ∀ w ∈ u_ws RX2 TX2 17, w ∈ wsX2_at := by decide +kernel
  refine lv_aload_n hx hb dX2_at_0 rfl (lv_at hl 0 rfl) ?_
  refine lv_iconst (v := 0) hx hb dX2_at_1 (by decide) ?_
  refine va_put (D := D) (ci := 5) (v := .int 0) (ty := .int) (C := RX2) (T := TX2) (N := 17) hx hb hts hinX2 tyX2 tyX2_ok nmX2 hown hK hP hD hS 0 rfl rfl 0 (by decide) (hts (.fieldLink RX2 59 "LoanCasesModel" "fault" "I") (by decide +kernel)) (fun _ h9 => h9) rfl (by decide +kernel) rfl rfl (Nat.le_of_ble_eq_true rfl) dX2_at_2 (fun H locs hP hD hS => ?_)
  have hP : va_P D vwCl (mW kI kJ a (sU S 16 0 0) G) H := hP
  have hD : va_D A (mW kI kJ a (sU S 16 0 0) G) := hD
  obtain ⟨S0, hS0⟩ : ∃ S0, S0 = sU S 16 0 0 := ⟨_, rfl⟩
  rw [← hS0] at hP hD
  have hn6 : S0 6 0 = nI n := by rw [hS0]; exact hn6
  have hfm : ∀ i, i < 110 → vp_in (S0 0 i) 19 := by rw [hS0]; exact hfm
  have hsz : ∀ i, i < 110 → ∃ n : Nat, n ≤ 10 ∧ S0 2 i = nI n := by rw [hS0]; exact hsz
  refine lv_aload_n hx hb dX2_at_5 rfl (lv_at hl 0 rfl) ?_
  refine lv_iload_n hx hb dX2_at_6 rfl (lv_at hl 1 rfl) ?_
  refine lv_iload_n hx hb dX2_at_7 rfl (lv_at hl 2 rfl) ?_
  refine lv_bipush (v := 9) hx hb dX2_at_8 (by decide) ?_
  refine lv_bipush (v := 17) hx hb dX2_at_10 (by decide) ?_
  refine vp_callSi (W.runV (As := [.int t, .int k, .int 9, .int 17]) (rest := []) ⟨hx, hb, hml, hown, hts⟩ (c_X2_refusal l D kI kJ kL a S0 G t k 9 17) (cwV 4 hts gX2_at_X2_refusal rfl rfl rfl (by decide +kernel) ⟨Nat.le_of_ble_eq_true rfl, Nat.le_of_ble_eq_true rfl⟩) (q_rV (w2 := []) hK hN (by rw [List.append_nil]; exact hP) (va_recv hK hP (ci := 5) (q0 := 0) rfl rfl)) rfl rfl hl.1 rfl (lv_room (Nat.le_of_ble_eq_true rfl)) dX2_at_12 ⟨Nat.le_of_ble_eq_true rfl, Nat.le_of_ble_eq_true rfl⟩) (fun r_2 h_1 => ?_)
  subst h_1
  refine lv_istore (lv' := [(4, .int (mrf S0 t k 9 17)), (0, .ref (a 0)), (1, .int t), (2, .int k), (3, .int i)]) hx hb dX2_at_15 hl (by decide) rfl (fun ls hl => ?_)
  refine lv_iload hx hb dX2_at_17 (lv_at hl 0 rfl) ?_
  refine lv_if_ge (tgt := 25) hx hb dX2_at_19 (by decide) (fun c_3 => ?_) (fun c_3 => ?_)
  · refine lv_aload_n hx hb dX2_at_25 rfl (lv_at hl 1 rfl) ?_
    refine lv_iload_n hx hb dX2_at_26 rfl (lv_at hl 2 rfl) ?_
    refine lv_iload_n hx hb dX2_at_27 rfl (lv_at hl 3 rfl) ?_
    refine vp_callSi (W.runV (As := [.int t, .int k]) (rest := []) ⟨hx, hb, hml, hown, hts⟩ (c_X2_isOf l D kI kJ kL a S0 G t k (mT_in hn6 hn (mrf_T c_3).1) hfm) (cwV 2 hts gX2_at_X2_isOf rfl rfl rfl (by decide +kernel) ⟨Nat.le_of_ble_eq_true rfl, Nat.le_of_ble_eq_true rfl⟩) (q_rV (w2 := []) hK hN (by rw [List.append_nil]; exact hP) (va_recv hK hP (ci := 5) (q0 := 0) rfl rfl)) rfl rfl hl.1 rfl (lv_room (Nat.le_of_ble_eq_true rfl)) dX2_at_28 ⟨Nat.le_of_ble_eq_true rfl, Nat.le_of_ble_eq_true rfl⟩) (fun r_h_4 h_4 => ?_)
    rcases h_4 with ⟨rfl, h_4⟩ | ⟨rfl, h_4⟩
    · refine lv_if_ne (tgt := 40) hx hb dX2_at_31 (by decide) (fun c_5 => ?_) (fun c_5 => absurd c_5 (by decide))
      refine lv_iload_n hx hb dX2_at_40 rfl (lv_at hl 4 rfl) ?_
      refine lv_i2l hx hb dX2_at_41 rfl ?_
      refine lv_lconst (v := 0) hx hb dX2_at_42 (by decide) ?_
      refine lv_aload_n hx hb dX2_at_43 rfl (lv_at hl 1 rfl) ?_
      refine va_get (D := D) (ci := 5) (v := .ref (a 3)) (C := RX2) (T := TX2) (N := 17) hx hb hts hinX2 hown hK hP 0 rfl rfl 4 (by decide) (hts (.fieldLink RX2 16 "LoanCasesModel" "sizes" "[I") (by decide +kernel)) (fun _ h9 => h9) rfl dX2_at_44 ?_
      refine lv_iload_n hx hb dX2_at_47 rfl (lv_at hl 2 rfl) ?_
      refine va_iald (f := S0 2) hx hb hK hP 3 0 rfl rfl (mT_in hn6 hn (mrf_T c_3).1) dX2_at_48 ?_
      refine lv_iconst (v := 1) hx hb dX2_at_49 (by decide) ?_
      refine lv_isub hx hb dX2_at_50 ?_
      refine lv_i2l hx hb dX2_at_51 rfl ?_
      refine vp_callSi (W.runS (As := [.long (i.toInt64), .long 0, .long (((S0 2 t.toNatClampNeg) - 1).toInt64)]) (rest := []) ⟨hx, hb, hml, hown, hts⟩ (c_X2_in l D kI kJ kL (i.toInt64) 0 (((S0 2 t.toNatClampNeg) - 1).toInt64)) (va_cwS 3 hts gX2_at_X2_in rfl rfl rfl (by decide +kernel) ⟨Nat.le_of_ble_eq_true rfl, Nat.le_of_ble_eq_true rfl⟩) (q_rS0 hK hN) rfl rfl hl.1 rfl (lv_room (Nat.le_of_ble_eq_true rfl)) dX2_at_52 ⟨Nat.le_of_ble_eq_true rfl, Nat.le_of_ble_eq_true rfl⟩) (fun r_h_6 h_6 => ?_)
      rcases h_6 with ⟨rfl, h_6⟩ | ⟨rfl, h_6⟩
      · refine lv_if_eq (tgt := 75) hx hb dX2_at_55 (by decide) (fun c_7 => absurd c_7 (by decide)) (fun c_7 => ?_)
        refine lv_aload_n hx hb dX2_at_58 rfl (lv_at hl 1 rfl) ?_
        refine va_get (D := D) (ci := 5) (v := .ref (a 5)) (C := RX2) (T := TX2) (N := 17) hx hb hts hinX2 hown hK hP 0 rfl rfl 6 (by decide) (hts (.fieldLink RX2 23 "LoanCasesModel" "places" "[I") (by decide +kernel)) (fun _ h9 => h9) rfl dX2_at_59 ?_
        refine lv_bipush (v := 10) hx hb dX2_at_62 (by decide) ?_
        refine lv_iload_n hx hb dX2_at_64 rfl (lv_at hl 2 rfl) ?_
        refine lv_imul hx hb dX2_at_65 ?_
        refine lv_iload_n hx hb dX2_at_66 rfl (lv_at hl 4 rfl) ?_
        refine lv_iadd hx hb dX2_at_67 ?_
        refine va_iald (f := S0 4) hx hb hK hP 5 0 rfl rfl (mpl_in (mT_in hn6 hn (mrf_T c_3).1) h_6 (hsz _ (vin_lt (mT_in hn6 hn (mrf_T c_3).1)))) dX2_at_68 ?_
        refine vp_callSi (W.runS (As := [.int (S0 4 ((10 * t) + i).toNatClampNeg)]) (rest := []) ⟨hx, hb, hml, hown, hts⟩ (c_X2_told l D kI kJ kL (S0 4 ((10 * t) + i).toNatClampNeg)) (va_cwS 1 hts gX2_at_X2_told rfl rfl rfl (by decide +kernel) ⟨Nat.le_of_ble_eq_true rfl, Nat.le_of_ble_eq_true rfl⟩) (q_rS0 hK hN) rfl rfl hl.1 rfl (lv_room (Nat.le_of_ble_eq_true rfl)) dX2_at_69 ⟨Nat.le_of_ble_eq_true rfl, Nat.le_of_ble_eq_true rfl⟩) (fun r_9 h_8 => ?_)
        subst h_8
        refine lv_goto (tgt := 80) hx hb dX2_at_72 (by decide) ?_
        exact W.iret (v := (mto (S0 4 ((10 * t) + i).toNatClampNeg))) hx hb hr (fun t9 ht hW => ⟨⟨(mto (S0 4 ((10 * t) + i).toNatClampNeg)), (S0, G), rfl, (by rw [← hS0]; exact ⟨by simp only [ms_at, mPl, cif_t c_3, cif_t h_4, cif_t h_6, sU_s], by simp only [ms_at, mPl, cif_t c_3, cif_t h_4, cif_t h_6, sU_s]⟩), by rw [ht]; exact hP, va_K.moved hW.alike hK, by rw [hAe]; exact hD⟩, hS.F ht⟩) hS.2.2 dX2_at_80
      · refine lv_if_eq (tgt := 75) hx hb dX2_at_55 (by decide) (fun c_10 => ?_) (fun c_10 => absurd c_10 (by decide))
        refine lv_aload_n hx hb dX2_at_75 rfl (lv_at hl 1 rfl) ?_
        refine lv_iconst (v := 3) hx hb dX2_at_76 (by decide) ?_
        refine qw_i (w2 := []) (va_runV (As := [.int 3]) (rest := []) ⟨hx, hb, hml, hown, hts⟩ (c_X2_found l D kI kJ kL a S0 G H.size 3 (by unfold vp_in; decide)) (cwV 1 hts gX2_at_X2_found rfl rfl rfl (by decide +kernel) ⟨Nat.le_of_ble_eq_true rfl, Nat.le_of_ble_eq_true rfl⟩) (q_wV (w2 := []) hK hN (by rw [List.append_nil]; exact hP) (by rw [List.append_nil]; exact hD) (va_recv hK hP (ci := 5) (q0 := 0) rfl rfl)) rfl rfl hl.1 rfl (lv_room (Nat.le_of_ble_eq_true rfl)) dX2_at_77 ⟨Nat.le_of_ble_eq_true rfl, Nat.le_of_ble_eq_true rfl⟩) (by rw [List.append_nil]; exact hP) (by rw [List.append_nil]; exact hD) hS hA (fun r_12 u_13 H locs h_11 hP hD hS => ?_)
        rw [List.append_nil] at hP hD
        obtain ⟨rfl, rfl⟩ := h_11
        have hP : va_P D vwCl (mW kI kJ a (xfd S0 3) G) H := hP
        have hD : va_D A (mW kI kJ a (xfd S0 3) G) := hD
        exact W.iret (v := (-30 - 3)) hx hb hr (fun t9 ht hW => ⟨⟨(-30 - 3), ((xfd S0 3), G), rfl, (by rw [← hS0]; exact ⟨by simp only [ms_at, mPl, cif_t c_3, cif_t h_4, cif_f h_6, sU_s], by simp only [ms_at, mPl, cif_t c_3, cif_t h_4, cif_f h_6, sU_s]⟩), by rw [ht]; exact hP, va_K.moved hW.alike hK, by rw [hAe]; exact hD⟩, hS.F ht⟩) hS.2.2 dX2_at_80
    · refine lv_if_ne (tgt := 40) hx hb dX2_at_31 (by decide) (fun c_14 => absurd c_14 (by decide)) (fun c_14 => ?_)
      refine lv_aload_n hx hb dX2_at_34 rfl (lv_at hl 1 rfl) ?_
      refine lv_iconst (v := 1) hx hb dX2_at_35 (by decide) ?_
      refine qw_i (w2 := []) (va_runV (As := [.int 1]) (rest := []) ⟨hx, hb, hml, hown, hts⟩ (c_X2_found l D kI kJ kL a S0 G H.size 1 (by unfold vp_in; decide)) (cwV 1 hts gX2_at_X2_found rfl rfl rfl (by decide +kernel) ⟨Nat.le_of_ble_eq_true rfl, Nat.le_of_ble_eq_true rfl⟩) (q_wV (w2 := []) hK hN (by rw [List.append_nil]; exact hP) (by rw [List.append_nil]; exact hD) (va_recv hK hP (ci := 5) (q0 := 0) rfl rfl)) rfl rfl hl.1 rfl (lv_room (Nat.le_of_ble_eq_true rfl)) dX2_at_36 ⟨Nat.le_of_ble_eq_true rfl, Nat.le_of_ble_eq_true rfl⟩) (by rw [List.append_nil]; exact hP) (by rw [List.append_nil]; exact hD) hS hA (fun r_16 u_17 H locs h_15 hP hD hS => ?_)
      rw [List.append_nil] at hP hD
      obtain ⟨rfl, rfl⟩ := h_15
      have hP : va_P D vwCl (mW kI kJ a (xfd S0 1) G) H := hP
      have hD : va_D A (mW kI kJ a (xfd S0 1) G) := hD
      exact W.iret (v := (-30 - 1)) hx hb hr (fun t9 ht hW => ⟨⟨(-30 - 1), ((xfd S0 1), G), rfl, (by rw [← hS0]; exact ⟨by simp only [ms_at, mPl, cif_t c_3, cif_f h_4, sU_s], by simp only [ms_at, mPl, cif_t c_3, cif_f h_4, sU_s]⟩), by rw [ht]; exact hP, va_K.moved hW.alike hK, by rw [hAe]; exact hD⟩, hS.F ht⟩) hS.2.2 dX2_at_39
  · refine lv_iload hx hb dX2_at_22 (lv_at hl 0 rfl) ?_
    exact W.iret (v := (mrf S0 t k 9 17)) hx hb hr (fun t9 ht hW => ⟨⟨(mrf S0 t k 9 17), (S0, G), rfl, (by rw [← hS0]; exact ⟨by simp only [ms_at, mPl, cif_f c_3, sU_s], by simp only [ms_at, mPl, cif_f c_3, sU_s]⟩), by rw [ht]; exact hP, va_K.moved hW.alike hK, by rw [hAe]; exact hD⟩, hS.F ht⟩) hS.2.2 dX2_at_24

set_option maxHeartbeats 4000000 in
set_option maxRecDepth 100000 in
theorem c_X2_hang (l : Launch) (D : va_G) (kI kJ kL : ClassId) (a : Nat → Nat) (S : Nat → Nat → Int32) (G : Nat → Int64) (sz : Nat) (t : Int32) (k : Int32) (i : Int32) (o : Int32) (n : Nat) (hn6 : S 6 0 = nI n) (hn : n ≤ 110) (hfm : ∀ i, i < 110 → vp_in (S 0 i) 19) (hsz : ∀ i, i < 110 → ∃ n : Nat, n ≤ 10 ∧ S 2 i = nI n) (h14 : S 14 18 = 262144) : Met l yX2_hang wsX2_hang ({ frames := 2, cells := 0, slots := 0, locals := 46 }) (q_wP D (xTY kI kJ kL) (mW kI kJ a S G) sz [.ref (a 0), .int t, .int k, .int i, .int o]) (va_Qi (fun r (u : (Nat → Nat → Int32) × (Nat → Int64)) => r = (ms_hang (sU S 16 0 0) t k i o).1 ∧ u = ((ms_hang (sU S 16 0 0) t k i o).2, G)) (q_wB D (xTY kI kJ kL) (mW kI kJ a S G) sz (fun u : (Nat → Nat → Int32) × (Nat → Int64) => mW kI kJ a u.1 u.2)) (va_A (mW kI kJ a S G) sz)) 0 0 (va_A (mW kI kJ a S G) sz) := by
  refine Met.ofW (cc := cX2_hang) (maxL := 5) (ret := (some .int)) (by decide) rfl ?_
  intro p e s m args below meth c s₁ Bd hml hv
  obtain ⟨rfl, hsz, hP, hK, hD0, hN⟩ := hv
  have hx := Bd.exec
  have hb := Bd.bytes
  have hr := Bd.returns
  have hts := atoms_spec (ws := wsX2_hang) Bd.pre
  have hown : s.vm.findClass RX2 = some m.cls := findClass_of_methodNamed Bd.named
  have hlocks := Bd.notSynchronized
  subst hsz
  have hD := hD0.self (sz := s.heap.size)
  generalize hAe : va_A (mW kI kJ a S G) s.heap.size = A at hD ⊢
  have hA : ∀ q : Nat, s.heap.size ≤ q → A q := fun q h => by rw [← hAe]; exact Or.inr h
  have hS : va_S A s.heap s.heap [] := va_S.rf
  have hl := lv_entry ([.ref (a 0), .int t, .int k, .int i, .int o]) (n := 5) (Nat.le_of_ble_eq_true rfl)
  rw [lg_entry_eq]
  generalize (lg_sl ([.ref (a 0), .int t, .int k, .int i, .int o]) ++ List.replicate (5 - (lg_sl ([.ref (a 0), .int t, .int k, .int i, .int o])).length) Slot.unset).toArray = ls at hl ⊢
  have hl : lv_has ls 5 [(0, .ref (a 0)), (1, .int t), (2, .int k), (3, .int i), (4, .int o)] := hl
  have hinX2 : ∀ w ∈ u_ws RX2 TX2 17, w ∈ wsX2_hang := by decide +kernel
  refine lv_aload_n hx hb dX2_hang_0 rfl (lv_at hl 0 rfl) ?_
  refine lv_iconst (v := 0) hx hb dX2_hang_1 (by decide) ?_
  refine va_put (D := D) (ci := 5) (v := .int 0) (ty := .int) (C := RX2) (T := TX2) (N := 17) hx hb hts hinX2 tyX2 tyX2_ok nmX2 hown hK hP hD hS 0 rfl rfl 0 (by decide) (hts (.fieldLink RX2 59 "LoanCasesModel" "fault" "I") (by decide +kernel)) (fun _ h9 => h9) rfl (by decide +kernel) rfl rfl (Nat.le_of_ble_eq_true rfl) dX2_hang_2 (fun H locs hP hD hS => ?_)
  have hP : va_P D vwCl (mW kI kJ a (sU S 16 0 0) G) H := hP
  have hD : va_D A (mW kI kJ a (sU S 16 0 0) G) := hD
  obtain ⟨S0, hS0⟩ : ∃ S0, S0 = sU S 16 0 0 := ⟨_, rfl⟩
  rw [← hS0] at hP hD
  have hn6 : S0 6 0 = nI n := by rw [hS0]; exact hn6
  have hfm : ∀ i, i < 110 → vp_in (S0 0 i) 19 := by rw [hS0]; exact hfm
  have hsz : ∀ i, i < 110 → ∃ n : Nat, n ≤ 10 ∧ S0 2 i = nI n := by rw [hS0]; exact hsz
  have h14 : S0 14 18 = 262144 := by rw [hS0]; exact h14
  refine lv_aload_n hx hb dX2_hang_5 rfl (lv_at hl 0 rfl) ?_
  refine lv_iload_n hx hb dX2_hang_6 rfl (lv_at hl 1 rfl) ?_
  refine vp_callSi (W.runV (As := [.int t]) (rest := []) ⟨hx, hb, hml, hown, hts⟩ (c_X2_isThing l D kI kJ kL a S0 G t) (cwV 1 hts gX2_hang_X2_isThing rfl rfl rfl (by decide +kernel) ⟨Nat.le_of_ble_eq_true rfl, Nat.le_of_ble_eq_true rfl⟩) (q_rV (w2 := []) hK hN (by rw [List.append_nil]; exact hP) (va_recv hK hP (ci := 5) (q0 := 0) rfl rfl)) rfl rfl hl.1 rfl (lv_room (Nat.le_of_ble_eq_true rfl)) dX2_hang_7 ⟨Nat.le_of_ble_eq_true rfl, Nat.le_of_ble_eq_true rfl⟩) (fun r_h_1 h_1 => ?_)
  rcases h_1 with ⟨rfl, h_1⟩ | ⟨rfl, h_1⟩
  · refine lv_if_eq (tgt := 29) hx hb dX2_hang_10 (by decide) (fun c_2 => absurd c_2 (by decide)) (fun c_2 => ?_)
    refine lv_iload hx hb dX2_hang_13 (lv_at hl 4 rfl) ?_
    refine lv_bipush (v := -5) hx hb dX2_hang_15 (by decide) ?_
    refine lv_icmp_eq (tgt := 31) hx hb dX2_hang_17 (by decide) (fun c_3 => ?_) (fun c_3 => ?_)
    · refine lv_iload_n hx hb dX2_hang_31 rfl (lv_at hl 2 rfl) ?_
      refine lv_i2l hx hb dX2_hang_32 rfl ?_
      refine lv_ldc2 hx hb hown (hts (.constantLong RX2 118 (9)) (by decide +kernel)) dX2_hang_33 ?_
      refine lv_ldc2 hx hb hown (hts (.constantLong RX2 87 (17)) (by decide +kernel)) dX2_hang_36 ?_
      refine vp_callSi (W.runS (As := [.long (k.toInt64), .long 9, .long 17]) (rest := []) ⟨hx, hb, hml, hown, hts⟩ (c_X2_in l D kI kJ kL (k.toInt64) 9 17) (va_cwS 3 hts gX2_hang_X2_in rfl rfl rfl (by decide +kernel) ⟨Nat.le_of_ble_eq_true rfl, Nat.le_of_ble_eq_true rfl⟩) (q_rS0 hK hN) rfl rfl hl.1 rfl (lv_room (Nat.le_of_ble_eq_true rfl)) dX2_hang_39 ⟨Nat.le_of_ble_eq_true rfl, Nat.le_of_ble_eq_true rfl⟩) (fun r_h_4 h_4 => ?_)
      rcases h_4 with ⟨rfl, h_4⟩ | ⟨rfl, h_4⟩
      · refine lv_if_ne (tgt := 48) hx hb dX2_hang_42 (by decide) (fun c_5 => ?_) (fun c_5 => absurd c_5 (by decide))
        refine lv_aload_n hx hb dX2_hang_48 rfl (lv_at hl 0 rfl) ?_
        refine lv_iload_n hx hb dX2_hang_49 rfl (lv_at hl 1 rfl) ?_
        refine lv_iload_n hx hb dX2_hang_50 rfl (lv_at hl 2 rfl) ?_
        refine vp_callSi (W.runV (As := [.int t, .int k]) (rest := []) ⟨hx, hb, hml, hown, hts⟩ (c_X2_isOf l D kI kJ kL a S0 G t k (mT_in hn6 hn h_1) hfm) (cwV 2 hts gX2_hang_X2_isOf rfl rfl rfl (by decide +kernel) ⟨Nat.le_of_ble_eq_true rfl, Nat.le_of_ble_eq_true rfl⟩) (q_rV (w2 := []) hK hN (by rw [List.append_nil]; exact hP) (va_recv hK hP (ci := 5) (q0 := 0) rfl rfl)) rfl rfl hl.1 rfl (lv_room (Nat.le_of_ble_eq_true rfl)) dX2_hang_51 ⟨Nat.le_of_ble_eq_true rfl, Nat.le_of_ble_eq_true rfl⟩) (fun r_h_6 h_6 => ?_)
        rcases h_6 with ⟨rfl, h_6⟩ | ⟨rfl, h_6⟩
        · refine lv_if_eq (tgt := 79) hx hb dX2_hang_54 (by decide) (fun c_7 => absurd c_7 (by decide)) (fun c_7 => ?_)
          refine lv_iload hx hb dX2_hang_57 (lv_at hl 4 rfl) ?_
          refine lv_bipush (v := -5) hx hb dX2_hang_59 (by decide) ?_
          refine lv_icmp_eq (tgt := 85) hx hb dX2_hang_61 (by decide) (fun c_8 => ?_) (fun c_8 => absurd c_3 c_8)
          refine lv_iload_n hx hb dX2_hang_85 rfl (lv_at hl 3 rfl) ?_
          refine lv_i2l hx hb dX2_hang_86 rfl ?_
          refine lv_lconst (v := 0) hx hb dX2_hang_87 (by decide) ?_
          refine lv_aload_n hx hb dX2_hang_88 rfl (lv_at hl 0 rfl) ?_
          refine va_get (D := D) (ci := 5) (v := .ref (a 3)) (C := RX2) (T := TX2) (N := 17) hx hb hts hinX2 hown hK hP 0 rfl rfl 4 (by decide) (hts (.fieldLink RX2 16 "LoanCasesModel" "sizes" "[I") (by decide +kernel)) (fun _ h9 => h9) rfl dX2_hang_89 ?_
          refine lv_iload_n hx hb dX2_hang_92 rfl (lv_at hl 1 rfl) ?_
          refine va_iald (f := S0 2) hx hb hK hP 3 0 rfl rfl (mT_in hn6 hn h_1) dX2_hang_93 ?_
          refine lv_iconst (v := 1) hx hb dX2_hang_94 (by decide) ?_
          refine lv_isub hx hb dX2_hang_95 ?_
          refine lv_i2l hx hb dX2_hang_96 rfl ?_
          refine vp_callSi (W.runS (As := [.long (i.toInt64), .long 0, .long (((S0 2 t.toNatClampNeg) - 1).toInt64)]) (rest := []) ⟨hx, hb, hml, hown, hts⟩ (c_X2_in l D kI kJ kL (i.toInt64) 0 (((S0 2 t.toNatClampNeg) - 1).toInt64)) (va_cwS 3 hts gX2_hang_X2_in rfl rfl rfl (by decide +kernel) ⟨Nat.le_of_ble_eq_true rfl, Nat.le_of_ble_eq_true rfl⟩) (q_rS0 hK hN) rfl rfl hl.1 rfl (lv_room (Nat.le_of_ble_eq_true rfl)) dX2_hang_97 ⟨Nat.le_of_ble_eq_true rfl, Nat.le_of_ble_eq_true rfl⟩) (fun r_h_9 h_9 => ?_)
          rcases h_9 with ⟨rfl, h_9⟩ | ⟨rfl, h_9⟩
          · refine lv_if_ne (tgt := 109) hx hb dX2_hang_100 (by decide) (fun c_10 => ?_) (fun c_10 => absurd c_10 (by decide))
            refine lv_iload hx hb dX2_hang_109 (lv_at hl 4 rfl) ?_
            refine lv_bipush (v := -5) hx hb dX2_hang_111 (by decide) ?_
            refine lv_icmp_eq (tgt := 142) hx hb dX2_hang_113 (by decide) (fun c_11 => ?_) (fun c_11 => absurd c_3 c_11)
            refine lv_aload_n hx hb dX2_hang_142 rfl (lv_at hl 0 rfl) ?_
            refine va_get (D := D) (ci := 5) (v := .ref (a 5)) (C := RX2) (T := TX2) (N := 17) hx hb hts hinX2 hown hK hP 0 rfl rfl 6 (by decide) (hts (.fieldLink RX2 23 "LoanCasesModel" "places" "[I") (by decide +kernel)) (fun _ h9 => h9) rfl dX2_hang_143 ?_
            refine lv_bipush (v := 10) hx hb dX2_hang_146 (by decide) ?_
            refine lv_iload_n hx hb dX2_hang_148 rfl (lv_at hl 1 rfl) ?_
            refine lv_imul hx hb dX2_hang_149 ?_
            refine lv_iload_n hx hb dX2_hang_150 rfl (lv_at hl 3 rfl) ?_
            refine lv_iadd hx hb dX2_hang_151 ?_
            refine lv_iload hx hb dX2_hang_152 (lv_at hl 4 rfl) ?_
            refine lv_bipush (v := -5) hx hb dX2_hang_154 (by decide) ?_
            refine lv_icmp_ne (tgt := 163) hx hb dX2_hang_156 (by decide) (fun c_12 => absurd c_3 c_12) (fun c_12 => ?_)
            refine lv_iconst (v := -1) hx hb dX2_hang_159 (by decide) ?_
            refine lv_goto (tgt := 165) hx hb dX2_hang_160 (by decide) ?_
            refine va_iast hx hb hK hP hD hS 5 0 rfl rfl (mpl_in (mT_in hn6 hn h_1) h_9 (hsz _ (vin_lt (mT_in hn6 hn h_1)))) dX2_hang_165 (fun H locs hP hD hS => ?_)
            have hP : va_P D vwCl (mW kI kJ a (sU S0 4 (((10 * t) + i).toNatClampNeg) (-1)) G) H := hP
            have hD : va_D A (mW kI kJ a (sU S0 4 (((10 * t) + i).toNatClampNeg) (-1)) G) := hD
            refine lv_iconst (v := 1) hx hb dX2_hang_166 (by decide) ?_
            exact W.iret (v := 1) hx hb hr (fun t9 ht hW => ⟨⟨1, ((sU S0 4 (((10 * t) + i).toNatClampNeg) (-1)), G), rfl, (by rw [← hS0]; exact ⟨by simp only [ms_hang, ms_hang2, ms_hang3, mPl, cif_t h_1, cif_t c_3, cif_t h_4, cif_t h_6, cif_t h_9, sU_s], by simp only [ms_hang, ms_hang2, ms_hang3, mPl, cif_t h_1, cif_t c_3, cif_t h_4, cif_t h_6, cif_t h_9, sU_s]⟩), by rw [ht]; exact hP, va_K.moved hW.alike hK, by rw [hAe]; exact hD⟩, hS.F ht⟩) hS.2.2 dX2_hang_167
          · refine lv_if_ne (tgt := 109) hx hb dX2_hang_100 (by decide) (fun c_13 => absurd c_13 (by decide)) (fun c_13 => ?_)
            refine lv_aload_n hx hb dX2_hang_103 rfl (lv_at hl 0 rfl) ?_
            refine lv_iconst (v := 3) hx hb dX2_hang_104 (by decide) ?_
            refine qw_i (w2 := []) (va_runV (As := [.int 3]) (rest := []) ⟨hx, hb, hml, hown, hts⟩ (c_X2_found l D kI kJ kL a S0 G H.size 3 (by unfold vp_in; decide)) (cwV 1 hts gX2_hang_X2_found rfl rfl rfl (by decide +kernel) ⟨Nat.le_of_ble_eq_true rfl, Nat.le_of_ble_eq_true rfl⟩) (q_wV (w2 := []) hK hN (by rw [List.append_nil]; exact hP) (by rw [List.append_nil]; exact hD) (va_recv hK hP (ci := 5) (q0 := 0) rfl rfl)) rfl rfl hl.1 rfl (lv_room (Nat.le_of_ble_eq_true rfl)) dX2_hang_105 ⟨Nat.le_of_ble_eq_true rfl, Nat.le_of_ble_eq_true rfl⟩) (by rw [List.append_nil]; exact hP) (by rw [List.append_nil]; exact hD) hS hA (fun r_15 u_16 H locs h_14 hP hD hS => ?_)
            rw [List.append_nil] at hP hD
            obtain ⟨rfl, rfl⟩ := h_14
            have hP : va_P D vwCl (mW kI kJ a (xfd S0 3) G) H := hP
            have hD : va_D A (mW kI kJ a (xfd S0 3) G) := hD
            exact W.iret (v := (-30 - 3)) hx hb hr (fun t9 ht hW => ⟨⟨(-30 - 3), ((xfd S0 3), G), rfl, (by rw [← hS0]; exact ⟨by simp only [ms_hang, ms_hang2, ms_hang3, mPl, cif_t h_1, cif_t c_3, cif_t h_4, cif_t h_6, cif_f h_9, sU_s], by simp only [ms_hang, ms_hang2, ms_hang3, mPl, cif_t h_1, cif_t c_3, cif_t h_4, cif_t h_6, cif_f h_9, sU_s]⟩), by rw [ht]; exact hP, va_K.moved hW.alike hK, by rw [hAe]; exact hD⟩, hS.F ht⟩) hS.2.2 dX2_hang_108
        · refine lv_if_eq (tgt := 79) hx hb dX2_hang_54 (by decide) (fun c_17 => ?_) (fun c_17 => absurd c_17 (by decide))
          refine lv_aload_n hx hb dX2_hang_79 rfl (lv_at hl 0 rfl) ?_
          refine lv_iconst (v := 1) hx hb dX2_hang_80 (by decide) ?_
          refine qw_i (w2 := []) (va_runV (As := [.int 1]) (rest := []) ⟨hx, hb, hml, hown, hts⟩ (c_X2_found l D kI kJ kL a S0 G H.size 1 (by unfold vp_in; decide)) (cwV 1 hts gX2_hang_X2_found rfl rfl rfl (by decide +kernel) ⟨Nat.le_of_ble_eq_true rfl, Nat.le_of_ble_eq_true rfl⟩) (q_wV (w2 := []) hK hN (by rw [List.append_nil]; exact hP) (by rw [List.append_nil]; exact hD) (va_recv hK hP (ci := 5) (q0 := 0) rfl rfl)) rfl rfl hl.1 rfl (lv_room (Nat.le_of_ble_eq_true rfl)) dX2_hang_81 ⟨Nat.le_of_ble_eq_true rfl, Nat.le_of_ble_eq_true rfl⟩) (by rw [List.append_nil]; exact hP) (by rw [List.append_nil]; exact hD) hS hA (fun r_19 u_20 H locs h_18 hP hD hS => ?_)
          rw [List.append_nil] at hP hD
          obtain ⟨rfl, rfl⟩ := h_18
          have hP : va_P D vwCl (mW kI kJ a (xfd S0 1) G) H := hP
          have hD : va_D A (mW kI kJ a (xfd S0 1) G) := hD
          exact W.iret (v := (-30 - 1)) hx hb hr (fun t9 ht hW => ⟨⟨(-30 - 1), ((xfd S0 1), G), rfl, (by rw [← hS0]; exact ⟨by simp only [ms_hang, ms_hang2, ms_hang3, mPl, cif_t h_1, cif_t c_3, cif_t h_4, cif_f h_6, sU_s], by simp only [ms_hang, ms_hang2, ms_hang3, mPl, cif_t h_1, cif_t c_3, cif_t h_4, cif_f h_6, sU_s]⟩), by rw [ht]; exact hP, va_K.moved hW.alike hK, by rw [hAe]; exact hD⟩, hS.F ht⟩) hS.2.2 dX2_hang_84
      · refine lv_if_ne (tgt := 48) hx hb dX2_hang_42 (by decide) (fun c_21 => absurd c_21 (by decide)) (fun c_21 => ?_)
        refine lv_bipush (v := -2) hx hb dX2_hang_45 (by decide) ?_
        exact W.iret (v := (-2)) hx hb hr (fun t9 ht hW => ⟨⟨(-2), (S0, G), rfl, (by rw [← hS0]; exact ⟨by simp only [ms_hang, ms_hang2, ms_hang3, mPl, cif_t h_1, cif_t c_3, cif_f h_4, sU_s], by simp only [ms_hang, ms_hang2, ms_hang3, mPl, cif_t h_1, cif_t c_3, cif_f h_4, sU_s]⟩), by rw [ht]; exact hP, va_K.moved hW.alike hK, by rw [hAe]; exact hD⟩, hS.F ht⟩) hS.2.2 dX2_hang_47
    · refine lv_aload_n hx hb dX2_hang_20 rfl (lv_at hl 0 rfl) ?_
      refine lv_iload hx hb dX2_hang_21 (lv_at hl 4 rfl) ?_
      refine vp_callSi (W.runV (As := [.int o]) (rest := []) ⟨hx, hb, hml, hown, hts⟩ (c_X2_isThing l D kI kJ kL a S0 G o) (cwV 1 hts gX2_hang_X2_isThing rfl rfl rfl (by decide +kernel) ⟨Nat.le_of_ble_eq_true rfl, Nat.le_of_ble_eq_true rfl⟩) (q_rV (w2 := []) hK hN (by rw [List.append_nil]; exact hP) (va_recv hK hP (ci := 5) (q0 := 0) rfl rfl)) rfl rfl hl.1 rfl (lv_room (Nat.le_of_ble_eq_true rfl)) dX2_hang_23 ⟨Nat.le_of_ble_eq_true rfl, Nat.le_of_ble_eq_true rfl⟩) (fun r_h_22 h_22 => ?_)
      rcases h_22 with ⟨rfl, h_22⟩ | ⟨rfl, h_22⟩
      · refine lv_if_ne (tgt := 31) hx hb dX2_hang_26 (by decide) (fun c_23 => ?_) (fun c_23 => absurd c_23 (by decide))
        refine lv_iload_n hx hb dX2_hang_31 rfl (lv_at hl 2 rfl) ?_
        refine lv_i2l hx hb dX2_hang_32 rfl ?_
        refine lv_ldc2 hx hb hown (hts (.constantLong RX2 118 (9)) (by decide +kernel)) dX2_hang_33 ?_
        refine lv_ldc2 hx hb hown (hts (.constantLong RX2 87 (17)) (by decide +kernel)) dX2_hang_36 ?_
        refine vp_callSi (W.runS (As := [.long (k.toInt64), .long 9, .long 17]) (rest := []) ⟨hx, hb, hml, hown, hts⟩ (c_X2_in l D kI kJ kL (k.toInt64) 9 17) (va_cwS 3 hts gX2_hang_X2_in rfl rfl rfl (by decide +kernel) ⟨Nat.le_of_ble_eq_true rfl, Nat.le_of_ble_eq_true rfl⟩) (q_rS0 hK hN) rfl rfl hl.1 rfl (lv_room (Nat.le_of_ble_eq_true rfl)) dX2_hang_39 ⟨Nat.le_of_ble_eq_true rfl, Nat.le_of_ble_eq_true rfl⟩) (fun r_h_24 h_24 => ?_)
        rcases h_24 with ⟨rfl, h_24⟩ | ⟨rfl, h_24⟩
        · refine lv_if_ne (tgt := 48) hx hb dX2_hang_42 (by decide) (fun c_25 => ?_) (fun c_25 => absurd c_25 (by decide))
          refine lv_aload_n hx hb dX2_hang_48 rfl (lv_at hl 0 rfl) ?_
          refine lv_iload_n hx hb dX2_hang_49 rfl (lv_at hl 1 rfl) ?_
          refine lv_iload_n hx hb dX2_hang_50 rfl (lv_at hl 2 rfl) ?_
          refine vp_callSi (W.runV (As := [.int t, .int k]) (rest := []) ⟨hx, hb, hml, hown, hts⟩ (c_X2_isOf l D kI kJ kL a S0 G t k (mT_in hn6 hn h_1) hfm) (cwV 2 hts gX2_hang_X2_isOf rfl rfl rfl (by decide +kernel) ⟨Nat.le_of_ble_eq_true rfl, Nat.le_of_ble_eq_true rfl⟩) (q_rV (w2 := []) hK hN (by rw [List.append_nil]; exact hP) (va_recv hK hP (ci := 5) (q0 := 0) rfl rfl)) rfl rfl hl.1 rfl (lv_room (Nat.le_of_ble_eq_true rfl)) dX2_hang_51 ⟨Nat.le_of_ble_eq_true rfl, Nat.le_of_ble_eq_true rfl⟩) (fun r_h_26 h_26 => ?_)
          rcases h_26 with ⟨rfl, h_26⟩ | ⟨rfl, h_26⟩
          · refine lv_if_eq (tgt := 79) hx hb dX2_hang_54 (by decide) (fun c_27 => absurd c_27 (by decide)) (fun c_27 => ?_)
            refine lv_iload hx hb dX2_hang_57 (lv_at hl 4 rfl) ?_
            refine lv_bipush (v := -5) hx hb dX2_hang_59 (by decide) ?_
            refine lv_icmp_eq (tgt := 85) hx hb dX2_hang_61 (by decide) (fun c_28 => absurd c_28 c_3) (fun c_28 => ?_)
            refine lv_aload_n hx hb dX2_hang_64 rfl (lv_at hl 0 rfl) ?_
            refine lv_iload hx hb dX2_hang_65 (lv_at hl 4 rfl) ?_
            refine lv_aload_n hx hb dX2_hang_67 rfl (lv_at hl 0 rfl) ?_
            refine va_get (D := D) (ci := 5) (v := .ref (a 7)) (C := RX2) (T := TX2) (N := 17) hx hb hts hinX2 hown hK hP 0 rfl rfl 8 (by decide) (hts (.fieldLink RX2 35 "LoanCasesModel" "partOf" "[I") (by decide +kernel)) (fun _ h9 => h9) rfl dX2_hang_68 ?_
            refine lv_iload_n hx hb dX2_hang_71 rfl (lv_at hl 2 rfl) ?_
            refine va_iald (f := S0 15) hx hb hK hP 7 0 rfl rfl (mIn_k18 h_24) dX2_hang_72 ?_
            refine vp_callSi (W.runV (As := [.int o, .int (S0 15 k.toNatClampNeg)]) (rest := []) ⟨hx, hb, hml, hown, hts⟩ (c_X2_isOf l D kI kJ kL a S0 G o (S0 15 k.toNatClampNeg) (mT_in hn6 hn h_22) hfm) (cwV 2 hts gX2_hang_X2_isOf rfl rfl rfl (by decide +kernel) ⟨Nat.le_of_ble_eq_true rfl, Nat.le_of_ble_eq_true rfl⟩) (q_rV (w2 := []) hK hN (by rw [List.append_nil]; exact hP) (va_recv hK hP (ci := 5) (q0 := 0) rfl rfl)) rfl rfl hl.1 rfl (lv_room (Nat.le_of_ble_eq_true rfl)) dX2_hang_73 ⟨Nat.le_of_ble_eq_true rfl, Nat.le_of_ble_eq_true rfl⟩) (fun r_h_29 h_29 => ?_)
            rcases h_29 with ⟨rfl, h_29⟩ | ⟨rfl, h_29⟩
            · refine lv_if_ne (tgt := 85) hx hb dX2_hang_76 (by decide) (fun c_30 => ?_) (fun c_30 => absurd c_30 (by decide))
              refine lv_iload_n hx hb dX2_hang_85 rfl (lv_at hl 3 rfl) ?_
              refine lv_i2l hx hb dX2_hang_86 rfl ?_
              refine lv_lconst (v := 0) hx hb dX2_hang_87 (by decide) ?_
              refine lv_aload_n hx hb dX2_hang_88 rfl (lv_at hl 0 rfl) ?_
              refine va_get (D := D) (ci := 5) (v := .ref (a 3)) (C := RX2) (T := TX2) (N := 17) hx hb hts hinX2 hown hK hP 0 rfl rfl 4 (by decide) (hts (.fieldLink RX2 16 "LoanCasesModel" "sizes" "[I") (by decide +kernel)) (fun _ h9 => h9) rfl dX2_hang_89 ?_
              refine lv_iload_n hx hb dX2_hang_92 rfl (lv_at hl 1 rfl) ?_
              refine va_iald (f := S0 2) hx hb hK hP 3 0 rfl rfl (mT_in hn6 hn h_1) dX2_hang_93 ?_
              refine lv_iconst (v := 1) hx hb dX2_hang_94 (by decide) ?_
              refine lv_isub hx hb dX2_hang_95 ?_
              refine lv_i2l hx hb dX2_hang_96 rfl ?_
              refine vp_callSi (W.runS (As := [.long (i.toInt64), .long 0, .long (((S0 2 t.toNatClampNeg) - 1).toInt64)]) (rest := []) ⟨hx, hb, hml, hown, hts⟩ (c_X2_in l D kI kJ kL (i.toInt64) 0 (((S0 2 t.toNatClampNeg) - 1).toInt64)) (va_cwS 3 hts gX2_hang_X2_in rfl rfl rfl (by decide +kernel) ⟨Nat.le_of_ble_eq_true rfl, Nat.le_of_ble_eq_true rfl⟩) (q_rS0 hK hN) rfl rfl hl.1 rfl (lv_room (Nat.le_of_ble_eq_true rfl)) dX2_hang_97 ⟨Nat.le_of_ble_eq_true rfl, Nat.le_of_ble_eq_true rfl⟩) (fun r_h_31 h_31 => ?_)
              rcases h_31 with ⟨rfl, h_31⟩ | ⟨rfl, h_31⟩
              · refine lv_if_ne (tgt := 109) hx hb dX2_hang_100 (by decide) (fun c_32 => ?_) (fun c_32 => absurd c_32 (by decide))
                refine lv_iload hx hb dX2_hang_109 (lv_at hl 4 rfl) ?_
                refine lv_bipush (v := -5) hx hb dX2_hang_111 (by decide) ?_
                refine lv_icmp_eq (tgt := 142) hx hb dX2_hang_113 (by decide) (fun c_33 => absurd c_33 c_3) (fun c_33 => ?_)
                refine lv_aload_n hx hb dX2_hang_116 rfl (lv_at hl 0 rfl) ?_
                refine lv_iload hx hb dX2_hang_117 (lv_at hl 4 rfl) ?_
                refine lv_aload_n hx hb dX2_hang_119 rfl (lv_at hl 0 rfl) ?_
                refine va_get (D := D) (ci := 5) (v := .ref (a 7)) (C := RX2) (T := TX2) (N := 17) hx hb hts hinX2 hown hK hP 0 rfl rfl 8 (by decide) (hts (.fieldLink RX2 35 "LoanCasesModel" "partOf" "[I") (by decide +kernel)) (fun _ h9 => h9) rfl dX2_hang_120 ?_
                refine lv_aload_n hx hb dX2_hang_123 rfl (lv_at hl 0 rfl) ?_
                refine va_get (D := D) (ci := 5) (v := .ref (a 1)) (C := RX2) (T := TX2) (N := 17) hx hb hts hinX2 hown hK hP 0 rfl rfl 2 (by decide) (hts (.fieldLink RX2 7 "LoanCasesModel" "forms" "[I") (by decide +kernel)) (fun _ h9 => h9) rfl dX2_hang_124 ?_
                refine lv_iload_n hx hb dX2_hang_127 rfl (lv_at hl 1 rfl) ?_
                refine va_iald (f := S0 0) hx hb hK hP 1 0 rfl rfl (mT_in hn6 hn h_1) dX2_hang_128 ?_
                refine va_iald (f := S0 15) hx hb hK hP 7 0 rfl rfl (mOf_18 (hfm _ (vin_lt (mT_in hn6 hn h_1))) h14 h_24 h_26) dX2_hang_129 ?_
                refine vp_callSi (W.runV (As := [.int o, .int (S0 15 (S0 0 t.toNatClampNeg).toNatClampNeg)]) (rest := []) ⟨hx, hb, hml, hown, hts⟩ (c_X2_isOf l D kI kJ kL a S0 G o (S0 15 (S0 0 t.toNatClampNeg).toNatClampNeg) (mT_in hn6 hn h_22) hfm) (cwV 2 hts gX2_hang_X2_isOf rfl rfl rfl (by decide +kernel) ⟨Nat.le_of_ble_eq_true rfl, Nat.le_of_ble_eq_true rfl⟩) (q_rV (w2 := []) hK hN (by rw [List.append_nil]; exact hP) (va_recv hK hP (ci := 5) (q0 := 0) rfl rfl)) rfl rfl hl.1 rfl (lv_room (Nat.le_of_ble_eq_true rfl)) dX2_hang_130 ⟨Nat.le_of_ble_eq_true rfl, Nat.le_of_ble_eq_true rfl⟩) (fun r_h_34 h_34 => ?_)
                rcases h_34 with ⟨rfl, h_34⟩ | ⟨rfl, h_34⟩
                · refine lv_if_ne (tgt := 142) hx hb dX2_hang_133 (by decide) (fun c_35 => ?_) (fun c_35 => absurd c_35 (by decide))
                  refine lv_aload_n hx hb dX2_hang_142 rfl (lv_at hl 0 rfl) ?_
                  refine va_get (D := D) (ci := 5) (v := .ref (a 5)) (C := RX2) (T := TX2) (N := 17) hx hb hts hinX2 hown hK hP 0 rfl rfl 6 (by decide) (hts (.fieldLink RX2 23 "LoanCasesModel" "places" "[I") (by decide +kernel)) (fun _ h9 => h9) rfl dX2_hang_143 ?_
                  refine lv_bipush (v := 10) hx hb dX2_hang_146 (by decide) ?_
                  refine lv_iload_n hx hb dX2_hang_148 rfl (lv_at hl 1 rfl) ?_
                  refine lv_imul hx hb dX2_hang_149 ?_
                  refine lv_iload_n hx hb dX2_hang_150 rfl (lv_at hl 3 rfl) ?_
                  refine lv_iadd hx hb dX2_hang_151 ?_
                  refine lv_iload hx hb dX2_hang_152 (lv_at hl 4 rfl) ?_
                  refine lv_bipush (v := -5) hx hb dX2_hang_154 (by decide) ?_
                  refine lv_icmp_ne (tgt := 163) hx hb dX2_hang_156 (by decide) (fun c_36 => ?_) (fun c_36 => absurd c_36 c_3)
                  refine lv_iload hx hb dX2_hang_163 (lv_at hl 4 rfl) ?_
                  refine va_iast hx hb hK hP hD hS 5 0 rfl rfl (mpl_in (mT_in hn6 hn h_1) h_31 (hsz _ (vin_lt (mT_in hn6 hn h_1)))) dX2_hang_165 (fun H locs hP hD hS => ?_)
                  have hP : va_P D vwCl (mW kI kJ a (sU S0 4 (((10 * t) + i).toNatClampNeg) o) G) H := hP
                  have hD : va_D A (mW kI kJ a (sU S0 4 (((10 * t) + i).toNatClampNeg) o) G) := hD
                  refine lv_iconst (v := 1) hx hb dX2_hang_166 (by decide) ?_
                  exact W.iret (v := 1) hx hb hr (fun t9 ht hW => ⟨⟨1, ((sU S0 4 (((10 * t) + i).toNatClampNeg) o), G), rfl, (by rw [← hS0]; exact ⟨by simp only [ms_hang, ms_hang2, ms_hang3, mPl, cif_t h_1, cif_f c_3, cif_t h_22, cif_t h_24, cif_t h_26, cif_t h_29, cif_t h_31, cif_t h_34, sU_s], by simp only [ms_hang, ms_hang2, ms_hang3, mPl, cif_t h_1, cif_f c_3, cif_t h_22, cif_t h_24, cif_t h_26, cif_t h_29, cif_t h_31, cif_t h_34, sU_s]⟩), by rw [ht]; exact hP, va_K.moved hW.alike hK, by rw [hAe]; exact hD⟩, hS.F ht⟩) hS.2.2 dX2_hang_167
                · refine lv_if_ne (tgt := 142) hx hb dX2_hang_133 (by decide) (fun c_37 => absurd c_37 (by decide)) (fun c_37 => ?_)
                  refine lv_aload_n hx hb dX2_hang_136 rfl (lv_at hl 0 rfl) ?_
                  refine lv_iconst (v := 4) hx hb dX2_hang_137 (by decide) ?_
                  refine qw_i (w2 := []) (va_runV (As := [.int 4]) (rest := []) ⟨hx, hb, hml, hown, hts⟩ (c_X2_found l D kI kJ kL a S0 G H.size 4 (by unfold vp_in; decide)) (cwV 1 hts gX2_hang_X2_found rfl rfl rfl (by decide +kernel) ⟨Nat.le_of_ble_eq_true rfl, Nat.le_of_ble_eq_true rfl⟩) (q_wV (w2 := []) hK hN (by rw [List.append_nil]; exact hP) (by rw [List.append_nil]; exact hD) (va_recv hK hP (ci := 5) (q0 := 0) rfl rfl)) rfl rfl hl.1 rfl (lv_room (Nat.le_of_ble_eq_true rfl)) dX2_hang_138 ⟨Nat.le_of_ble_eq_true rfl, Nat.le_of_ble_eq_true rfl⟩) (by rw [List.append_nil]; exact hP) (by rw [List.append_nil]; exact hD) hS hA (fun r_39 u_40 H locs h_38 hP hD hS => ?_)
                  rw [List.append_nil] at hP hD
                  obtain ⟨rfl, rfl⟩ := h_38
                  have hP : va_P D vwCl (mW kI kJ a (xfd S0 4) G) H := hP
                  have hD : va_D A (mW kI kJ a (xfd S0 4) G) := hD
                  exact W.iret (v := (-30 - 4)) hx hb hr (fun t9 ht hW => ⟨⟨(-30 - 4), ((xfd S0 4), G), rfl, (by rw [← hS0]; exact ⟨by simp only [ms_hang, ms_hang2, ms_hang3, mPl, cif_t h_1, cif_f c_3, cif_t h_22, cif_t h_24, cif_t h_26, cif_t h_29, cif_t h_31, cif_f h_34, sU_s], by simp only [ms_hang, ms_hang2, ms_hang3, mPl, cif_t h_1, cif_f c_3, cif_t h_22, cif_t h_24, cif_t h_26, cif_t h_29, cif_t h_31, cif_f h_34, sU_s]⟩), by rw [ht]; exact hP, va_K.moved hW.alike hK, by rw [hAe]; exact hD⟩, hS.F ht⟩) hS.2.2 dX2_hang_141
              · refine lv_if_ne (tgt := 109) hx hb dX2_hang_100 (by decide) (fun c_41 => absurd c_41 (by decide)) (fun c_41 => ?_)
                refine lv_aload_n hx hb dX2_hang_103 rfl (lv_at hl 0 rfl) ?_
                refine lv_iconst (v := 3) hx hb dX2_hang_104 (by decide) ?_
                refine qw_i (w2 := []) (va_runV (As := [.int 3]) (rest := []) ⟨hx, hb, hml, hown, hts⟩ (c_X2_found l D kI kJ kL a S0 G H.size 3 (by unfold vp_in; decide)) (cwV 1 hts gX2_hang_X2_found rfl rfl rfl (by decide +kernel) ⟨Nat.le_of_ble_eq_true rfl, Nat.le_of_ble_eq_true rfl⟩) (q_wV (w2 := []) hK hN (by rw [List.append_nil]; exact hP) (by rw [List.append_nil]; exact hD) (va_recv hK hP (ci := 5) (q0 := 0) rfl rfl)) rfl rfl hl.1 rfl (lv_room (Nat.le_of_ble_eq_true rfl)) dX2_hang_105 ⟨Nat.le_of_ble_eq_true rfl, Nat.le_of_ble_eq_true rfl⟩) (by rw [List.append_nil]; exact hP) (by rw [List.append_nil]; exact hD) hS hA (fun r_43 u_44 H locs h_42 hP hD hS => ?_)
                rw [List.append_nil] at hP hD
                obtain ⟨rfl, rfl⟩ := h_42
                have hP : va_P D vwCl (mW kI kJ a (xfd S0 3) G) H := hP
                have hD : va_D A (mW kI kJ a (xfd S0 3) G) := hD
                exact W.iret (v := (-30 - 3)) hx hb hr (fun t9 ht hW => ⟨⟨(-30 - 3), ((xfd S0 3), G), rfl, (by rw [← hS0]; exact ⟨by simp only [ms_hang, ms_hang2, ms_hang3, mPl, cif_t h_1, cif_f c_3, cif_t h_22, cif_t h_24, cif_t h_26, cif_t h_29, cif_f h_31, sU_s], by simp only [ms_hang, ms_hang2, ms_hang3, mPl, cif_t h_1, cif_f c_3, cif_t h_22, cif_t h_24, cif_t h_26, cif_t h_29, cif_f h_31, sU_s]⟩), by rw [ht]; exact hP, va_K.moved hW.alike hK, by rw [hAe]; exact hD⟩, hS.F ht⟩) hS.2.2 dX2_hang_108
            · refine lv_if_ne (tgt := 85) hx hb dX2_hang_76 (by decide) (fun c_45 => absurd c_45 (by decide)) (fun c_45 => ?_)
              refine lv_aload_n hx hb dX2_hang_79 rfl (lv_at hl 0 rfl) ?_
              refine lv_iconst (v := 1) hx hb dX2_hang_80 (by decide) ?_
              refine qw_i (w2 := []) (va_runV (As := [.int 1]) (rest := []) ⟨hx, hb, hml, hown, hts⟩ (c_X2_found l D kI kJ kL a S0 G H.size 1 (by unfold vp_in; decide)) (cwV 1 hts gX2_hang_X2_found rfl rfl rfl (by decide +kernel) ⟨Nat.le_of_ble_eq_true rfl, Nat.le_of_ble_eq_true rfl⟩) (q_wV (w2 := []) hK hN (by rw [List.append_nil]; exact hP) (by rw [List.append_nil]; exact hD) (va_recv hK hP (ci := 5) (q0 := 0) rfl rfl)) rfl rfl hl.1 rfl (lv_room (Nat.le_of_ble_eq_true rfl)) dX2_hang_81 ⟨Nat.le_of_ble_eq_true rfl, Nat.le_of_ble_eq_true rfl⟩) (by rw [List.append_nil]; exact hP) (by rw [List.append_nil]; exact hD) hS hA (fun r_47 u_48 H locs h_46 hP hD hS => ?_)
              rw [List.append_nil] at hP hD
              obtain ⟨rfl, rfl⟩ := h_46
              have hP : va_P D vwCl (mW kI kJ a (xfd S0 1) G) H := hP
              have hD : va_D A (mW kI kJ a (xfd S0 1) G) := hD
              exact W.iret (v := (-30 - 1)) hx hb hr (fun t9 ht hW => ⟨⟨(-30 - 1), ((xfd S0 1), G), rfl, (by rw [← hS0]; exact ⟨by simp only [ms_hang, ms_hang2, ms_hang3, mPl, cif_t h_1, cif_f c_3, cif_t h_22, cif_t h_24, cif_t h_26, cif_f h_29, sU_s], by simp only [ms_hang, ms_hang2, ms_hang3, mPl, cif_t h_1, cif_f c_3, cif_t h_22, cif_t h_24, cif_t h_26, cif_f h_29, sU_s]⟩), by rw [ht]; exact hP, va_K.moved hW.alike hK, by rw [hAe]; exact hD⟩, hS.F ht⟩) hS.2.2 dX2_hang_84
          · refine lv_if_eq (tgt := 79) hx hb dX2_hang_54 (by decide) (fun c_49 => ?_) (fun c_49 => absurd c_49 (by decide))
            refine lv_aload_n hx hb dX2_hang_79 rfl (lv_at hl 0 rfl) ?_
            refine lv_iconst (v := 1) hx hb dX2_hang_80 (by decide) ?_
            refine qw_i (w2 := []) (va_runV (As := [.int 1]) (rest := []) ⟨hx, hb, hml, hown, hts⟩ (c_X2_found l D kI kJ kL a S0 G H.size 1 (by unfold vp_in; decide)) (cwV 1 hts gX2_hang_X2_found rfl rfl rfl (by decide +kernel) ⟨Nat.le_of_ble_eq_true rfl, Nat.le_of_ble_eq_true rfl⟩) (q_wV (w2 := []) hK hN (by rw [List.append_nil]; exact hP) (by rw [List.append_nil]; exact hD) (va_recv hK hP (ci := 5) (q0 := 0) rfl rfl)) rfl rfl hl.1 rfl (lv_room (Nat.le_of_ble_eq_true rfl)) dX2_hang_81 ⟨Nat.le_of_ble_eq_true rfl, Nat.le_of_ble_eq_true rfl⟩) (by rw [List.append_nil]; exact hP) (by rw [List.append_nil]; exact hD) hS hA (fun r_51 u_52 H locs h_50 hP hD hS => ?_)
            rw [List.append_nil] at hP hD
            obtain ⟨rfl, rfl⟩ := h_50
            have hP : va_P D vwCl (mW kI kJ a (xfd S0 1) G) H := hP
            have hD : va_D A (mW kI kJ a (xfd S0 1) G) := hD
            exact W.iret (v := (-30 - 1)) hx hb hr (fun t9 ht hW => ⟨⟨(-30 - 1), ((xfd S0 1), G), rfl, (by rw [← hS0]; exact ⟨by simp only [ms_hang, ms_hang2, ms_hang3, mPl, cif_t h_1, cif_f c_3, cif_t h_22, cif_t h_24, cif_f h_26, sU_s], by simp only [ms_hang, ms_hang2, ms_hang3, mPl, cif_t h_1, cif_f c_3, cif_t h_22, cif_t h_24, cif_f h_26, sU_s]⟩), by rw [ht]; exact hP, va_K.moved hW.alike hK, by rw [hAe]; exact hD⟩, hS.F ht⟩) hS.2.2 dX2_hang_84
        · refine lv_if_ne (tgt := 48) hx hb dX2_hang_42 (by decide) (fun c_53 => absurd c_53 (by decide)) (fun c_53 => ?_)
          refine lv_bipush (v := -2) hx hb dX2_hang_45 (by decide) ?_
          exact W.iret (v := (-2)) hx hb hr (fun t9 ht hW => ⟨⟨(-2), (S0, G), rfl, (by rw [← hS0]; exact ⟨by simp only [ms_hang, ms_hang2, ms_hang3, mPl, cif_t h_1, cif_f c_3, cif_t h_22, cif_f h_24, sU_s], by simp only [ms_hang, ms_hang2, ms_hang3, mPl, cif_t h_1, cif_f c_3, cif_t h_22, cif_f h_24, sU_s]⟩), by rw [ht]; exact hP, va_K.moved hW.alike hK, by rw [hAe]; exact hD⟩, hS.F ht⟩) hS.2.2 dX2_hang_47
      · refine lv_if_ne (tgt := 31) hx hb dX2_hang_26 (by decide) (fun c_54 => absurd c_54 (by decide)) (fun c_54 => ?_)
        refine lv_iconst (v := -1) hx hb dX2_hang_29 (by decide) ?_
        exact W.iret (v := (-1)) hx hb hr (fun t9 ht hW => ⟨⟨(-1), (S0, G), rfl, (by rw [← hS0]; exact ⟨by simp only [ms_hang, ms_hang2, ms_hang3, mPl, cif_t h_1, cif_f c_3, cif_f h_22, sU_s], by simp only [ms_hang, ms_hang2, ms_hang3, mPl, cif_t h_1, cif_f c_3, cif_f h_22, sU_s]⟩), by rw [ht]; exact hP, va_K.moved hW.alike hK, by rw [hAe]; exact hD⟩, hS.F ht⟩) hS.2.2 dX2_hang_30
  · refine lv_if_eq (tgt := 29) hx hb dX2_hang_10 (by decide) (fun c_55 => ?_) (fun c_55 => absurd c_55 (by decide))
    refine lv_iconst (v := -1) hx hb dX2_hang_29 (by decide) ?_
    exact W.iret (v := (-1)) hx hb hr (fun t9 ht hW => ⟨⟨(-1), (S0, G), rfl, (by rw [← hS0]; exact ⟨by simp only [ms_hang, ms_hang2, ms_hang3, mPl, cif_f h_1, sU_s], by simp only [ms_hang, ms_hang2, ms_hang3, mPl, cif_f h_1, sU_s]⟩), by rw [ht]; exact hP, va_K.moved hW.alike hK, by rw [hAe]; exact hD⟩, hS.F ht⟩) hS.2.2 dX2_hang_30

set_option maxHeartbeats 4000000 in
set_option maxRecDepth 100000 in
theorem c_X2_deep (l : Launch) (D : va_G) (kI kJ kL : ClassId) (a : Nat → Nat) (S : Nat → Nat → Int32) (G : Nat → Int64) (sz : Nat) (t : Int32) (k : Int32) (i : Int32) (z : Int32) (n : Nat) (hn6 : S 6 0 = nI n) (hn : n ≤ 110) (hfm : ∀ i, i < 110 → vp_in (S 0 i) 19) (hsz : ∀ i, i < 110 → ∃ n : Nat, n ≤ 10 ∧ S 2 i = nI n) (hpv : ∀ i, i < 1100 → S 4 i < 0 ∨ vp_in (S 4 i) 110) : Met l yX2_deep wsX2_deep ({ frames := 2, cells := 0, slots := 0, locals := 46 }) (q_wP D (xTY kI kJ kL) (mW kI kJ a S G) sz [.ref (a 0), .int t, .int k, .int i, .int z]) (va_Qi (fun r (u : (Nat → Nat → Int32) × (Nat → Int64)) => r = (ms_deep (sU S 16 0 0) G t k i z).1 ∧ u = ((ms_deep (sU S 16 0 0) G t k i z).2, G)) (q_wB D (xTY kI kJ kL) (mW kI kJ a S G) sz (fun u : (Nat → Nat → Int32) × (Nat → Int64) => mW kI kJ a u.1 u.2)) (va_A (mW kI kJ a S G) sz)) 0 0 (va_A (mW kI kJ a S G) sz) := by
  refine Met.ofW (cc := cX2_deep) (maxL := 6) (ret := (some .int)) (by decide) rfl ?_
  intro p e s m args below meth c s₁ Bd hml hv
  obtain ⟨rfl, hsz, hP, hK, hD0, hN⟩ := hv
  have hx := Bd.exec
  have hb := Bd.bytes
  have hr := Bd.returns
  have hts := atoms_spec (ws := wsX2_deep) Bd.pre
  have hown : s.vm.findClass RX2 = some m.cls := findClass_of_methodNamed Bd.named
  have hlocks := Bd.notSynchronized
  subst hsz
  have hD := hD0.self (sz := s.heap.size)
  generalize hAe : va_A (mW kI kJ a S G) s.heap.size = A at hD ⊢
  have hA : ∀ q : Nat, s.heap.size ≤ q → A q := fun q h => by rw [← hAe]; exact Or.inr h
  have hS : va_S A s.heap s.heap [] := va_S.rf
  have hl := lv_entry ([.ref (a 0), .int t, .int k, .int i, .int z]) (n := 6) (Nat.le_of_ble_eq_true rfl)
  rw [lg_entry_eq]
  generalize (lg_sl ([.ref (a 0), .int t, .int k, .int i, .int z]) ++ List.replicate (6 - (lg_sl ([.ref (a 0), .int t, .int k, .int i, .int z])).length) Slot.unset).toArray = ls at hl ⊢
  have hl : lv_has ls 6 [(0, .ref (a 0)), (1, .int t), (2, .int k), (3, .int i), (4, .int z)] := hl
  have hinX2 : ∀ w ∈ u_ws RX2 TX2 17, w ∈ wsX2_deep := by decide +kernel
  refine lv_aload_n hx hb dX2_deep_0 rfl (lv_at hl 0 rfl) ?_
  refine lv_iconst (v := 0) hx hb dX2_deep_1 (by decide) ?_
  refine va_put (D := D) (ci := 5) (v := .int 0) (ty := .int) (C := RX2) (T := TX2) (N := 17) hx hb hts hinX2 tyX2 tyX2_ok nmX2 hown hK hP hD hS 0 rfl rfl 0 (by decide) (hts (.fieldLink RX2 59 "LoanCasesModel" "fault" "I") (by decide +kernel)) (fun _ h9 => h9) rfl (by decide +kernel) rfl rfl (Nat.le_of_ble_eq_true rfl) dX2_deep_2 (fun H locs hP hD hS => ?_)
  have hP : va_P D vwCl (mW kI kJ a (sU S 16 0 0) G) H := hP
  have hD : va_D A (mW kI kJ a (sU S 16 0 0) G) := hD
  obtain ⟨S0, hS0⟩ : ∃ S0, S0 = sU S 16 0 0 := ⟨_, rfl⟩
  rw [← hS0] at hP hD
  have hn6 : S0 6 0 = nI n := by rw [hS0]; exact hn6
  have hfm : ∀ i, i < 110 → vp_in (S0 0 i) 19 := by rw [hS0]; exact hfm
  have hsz : ∀ i, i < 110 → ∃ n : Nat, n ≤ 10 ∧ S0 2 i = nI n := by rw [hS0]; exact hsz
  have hpv : ∀ i, i < 1100 → S0 4 i < 0 ∨ vp_in (S0 4 i) 110 := by rw [hS0]; exact hpv
  refine lv_aload_n hx hb dX2_deep_5 rfl (lv_at hl 0 rfl) ?_
  refine lv_iload_n hx hb dX2_deep_6 rfl (lv_at hl 1 rfl) ?_
  refine vp_callSi (W.runV (As := [.int t]) (rest := []) ⟨hx, hb, hml, hown, hts⟩ (c_X2_isThing l D kI kJ kL a S0 G t) (cwV 1 hts gX2_deep_X2_isThing rfl rfl rfl (by decide +kernel) ⟨Nat.le_of_ble_eq_true rfl, Nat.le_of_ble_eq_true rfl⟩) (q_rV (w2 := []) hK hN (by rw [List.append_nil]; exact hP) (va_recv hK hP (ci := 5) (q0 := 0) rfl rfl)) rfl rfl hl.1 rfl (lv_room (Nat.le_of_ble_eq_true rfl)) dX2_deep_7 ⟨Nat.le_of_ble_eq_true rfl, Nat.le_of_ble_eq_true rfl⟩) (fun r_h_1 h_1 => ?_)
  rcases h_1 with ⟨rfl, h_1⟩ | ⟨rfl, h_1⟩
  · refine lv_if_ne (tgt := 15) hx hb dX2_deep_10 (by decide) (fun c_2 => ?_) (fun c_2 => absurd c_2 (by decide))
    refine lv_iload_n hx hb dX2_deep_15 rfl (lv_at hl 2 rfl) ?_
    refine lv_bipush (v := 9) hx hb dX2_deep_16 (by decide) ?_
    refine lv_icmp_eq (tgt := 36) hx hb dX2_deep_18 (by decide) (fun c_3 => ?_) (fun c_3 => ?_)
    · refine lv_aload_n hx hb dX2_deep_36 rfl (lv_at hl 0 rfl) ?_
      refine lv_iload_n hx hb dX2_deep_37 rfl (lv_at hl 1 rfl) ?_
      refine lv_iload_n hx hb dX2_deep_38 rfl (lv_at hl 2 rfl) ?_
      refine vp_callSi (W.runV (As := [.int t, .int k]) (rest := []) ⟨hx, hb, hml, hown, hts⟩ (c_X2_isOf l D kI kJ kL a S0 G t k (mT_in hn6 hn h_1) hfm) (cwV 2 hts gX2_deep_X2_isOf rfl rfl rfl (by decide +kernel) ⟨Nat.le_of_ble_eq_true rfl, Nat.le_of_ble_eq_true rfl⟩) (q_rV (w2 := []) hK hN (by rw [List.append_nil]; exact hP) (va_recv hK hP (ci := 5) (q0 := 0) rfl rfl)) rfl rfl hl.1 rfl (lv_room (Nat.le_of_ble_eq_true rfl)) dX2_deep_39 ⟨Nat.le_of_ble_eq_true rfl, Nat.le_of_ble_eq_true rfl⟩) (fun r_h_4 h_4 => ?_)
      rcases h_4 with ⟨rfl, h_4⟩ | ⟨rfl, h_4⟩
      · refine lv_if_ne (tgt := 51) hx hb dX2_deep_42 (by decide) (fun c_5 => ?_) (fun c_5 => absurd c_5 (by decide))
        refine lv_iload_n hx hb dX2_deep_51 rfl (lv_at hl 3 rfl) ?_
        refine lv_i2l hx hb dX2_deep_52 rfl ?_
        refine lv_lconst (v := 0) hx hb dX2_deep_53 (by decide) ?_
        refine lv_aload_n hx hb dX2_deep_54 rfl (lv_at hl 0 rfl) ?_
        refine va_get (D := D) (ci := 5) (v := .ref (a 3)) (C := RX2) (T := TX2) (N := 17) hx hb hts hinX2 hown hK hP 0 rfl rfl 4 (by decide) (hts (.fieldLink RX2 16 "LoanCasesModel" "sizes" "[I") (by decide +kernel)) (fun _ h9 => h9) rfl dX2_deep_55 ?_
        refine lv_iload_n hx hb dX2_deep_58 rfl (lv_at hl 1 rfl) ?_
        refine va_iald (f := S0 2) hx hb hK hP 3 0 rfl rfl (mT_in hn6 hn h_1) dX2_deep_59 ?_
        refine lv_iconst (v := 1) hx hb dX2_deep_60 (by decide) ?_
        refine lv_isub hx hb dX2_deep_61 ?_
        refine lv_i2l hx hb dX2_deep_62 rfl ?_
        refine vp_callSi (W.runS (As := [.long (i.toInt64), .long 0, .long (((S0 2 t.toNatClampNeg) - 1).toInt64)]) (rest := []) ⟨hx, hb, hml, hown, hts⟩ (c_X2_in l D kI kJ kL (i.toInt64) 0 (((S0 2 t.toNatClampNeg) - 1).toInt64)) (va_cwS 3 hts gX2_deep_X2_in rfl rfl rfl (by decide +kernel) ⟨Nat.le_of_ble_eq_true rfl, Nat.le_of_ble_eq_true rfl⟩) (q_rS0 hK hN) rfl rfl hl.1 rfl (lv_room (Nat.le_of_ble_eq_true rfl)) dX2_deep_63 ⟨Nat.le_of_ble_eq_true rfl, Nat.le_of_ble_eq_true rfl⟩) (fun r_h_6 h_6 => ?_)
        rcases h_6 with ⟨rfl, h_6⟩ | ⟨rfl, h_6⟩
        · refine lv_if_ne (tgt := 75) hx hb dX2_deep_66 (by decide) (fun c_7 => ?_) (fun c_7 => absurd c_7 (by decide))
          refine lv_aload_n hx hb dX2_deep_75 rfl (lv_at hl 0 rfl) ?_
          refine va_get (D := D) (ci := 5) (v := .ref (a 5)) (C := RX2) (T := TX2) (N := 17) hx hb hts hinX2 hown hK hP 0 rfl rfl 6 (by decide) (hts (.fieldLink RX2 23 "LoanCasesModel" "places" "[I") (by decide +kernel)) (fun _ h9 => h9) rfl dX2_deep_76 ?_
          refine lv_bipush (v := 10) hx hb dX2_deep_79 (by decide) ?_
          refine lv_iload_n hx hb dX2_deep_81 rfl (lv_at hl 1 rfl) ?_
          refine lv_imul hx hb dX2_deep_82 ?_
          refine lv_iload_n hx hb dX2_deep_83 rfl (lv_at hl 3 rfl) ?_
          refine lv_iadd hx hb dX2_deep_84 ?_
          refine va_iald (f := S0 4) hx hb hK hP 5 0 rfl rfl (mpl_in (mT_in hn6 hn h_1) h_6 (hsz _ (vin_lt (mT_in hn6 hn h_1)))) dX2_deep_85 ?_
          refine lv_istore (lv' := [(5, .int (S0 4 ((10 * t) + i).toNatClampNeg)), (0, .ref (a 0)), (1, .int t), (2, .int k), (3, .int i), (4, .int z)]) hx hb dX2_deep_86 hl (by decide) rfl (fun ls hl => ?_)
          refine lv_iload hx hb dX2_deep_88 (lv_at hl 0 rfl) ?_
          refine lv_if_ge (tgt := 99) hx hb dX2_deep_90 (by decide) (fun c_8 => ?_) (fun c_8 => ?_)
          · refine lv_iload hx hb dX2_deep_99 (lv_at hl 5 rfl) ?_
            refine lv_i2l hx hb dX2_deep_101 rfl ?_
            refine lv_lconst (v := 0) hx hb dX2_deep_102 (by decide) ?_
            refine lv_aload_n hx hb dX2_deep_103 rfl (lv_at hl 1 rfl) ?_
            refine va_get (D := D) (ci := 5) (v := .ref (a 3)) (C := RX2) (T := TX2) (N := 17) hx hb hts hinX2 hown hK hP 0 rfl rfl 4 (by decide) (hts (.fieldLink RX2 16 "LoanCasesModel" "sizes" "[I") (by decide +kernel)) (fun _ h9 => h9) rfl dX2_deep_104 ?_
            refine lv_iload hx hb dX2_deep_107 (lv_at hl 0 rfl) ?_
            refine va_iald (f := S0 2) hx hb hK hP 3 0 rfl rfl (mfl_ge (hpv _ (vin_lt (mpl_in (mT_in hn6 hn h_1) h_6 (hsz _ (vin_lt (mT_in hn6 hn h_1)))))) (Int32.not_lt.mpr c_8)) dX2_deep_109 ?_
            refine lv_iconst (v := 1) hx hb dX2_deep_110 (by decide) ?_
            refine lv_isub hx hb dX2_deep_111 ?_
            refine lv_i2l hx hb dX2_deep_112 rfl ?_
            refine vp_callSi (W.runS (As := [.long (z.toInt64), .long 0, .long (((S0 2 (S0 4 ((10 * t) + i).toNatClampNeg).toNatClampNeg) - 1).toInt64)]) (rest := []) ⟨hx, hb, hml, hown, hts⟩ (c_X2_in l D kI kJ kL (z.toInt64) 0 (((S0 2 (S0 4 ((10 * t) + i).toNatClampNeg).toNatClampNeg) - 1).toInt64)) (va_cwS 3 hts gX2_deep_X2_in rfl rfl rfl (by decide +kernel) ⟨Nat.le_of_ble_eq_true rfl, Nat.le_of_ble_eq_true rfl⟩) (q_rS0 hK hN) rfl rfl hl.1 rfl (lv_room (Nat.le_of_ble_eq_true rfl)) dX2_deep_113 ⟨Nat.le_of_ble_eq_true rfl, Nat.le_of_ble_eq_true rfl⟩) (fun r_h_9 h_9 => ?_)
            rcases h_9 with ⟨rfl, h_9⟩ | ⟨rfl, h_9⟩
            · refine lv_if_ne (tgt := 125) hx hb dX2_deep_116 (by decide) (fun c_10 => ?_) (fun c_10 => absurd c_10 (by decide))
              refine lv_iload_n hx hb dX2_deep_125 rfl (lv_at hl 3 rfl) ?_
              refine lv_bipush (v := 9) hx hb dX2_deep_126 (by decide) ?_
              refine lv_icmp_ne (tgt := 148) hx hb dX2_deep_128 (by decide) (fun c_11 => absurd c_3 c_11) (fun c_11 => ?_)
              refine lv_aload_n hx hb dX2_deep_131 rfl (lv_at hl 1 rfl) ?_
              refine va_get (D := D) (ci := 5) (v := .ref (a 4)) (C := RX2) (T := TX2) (N := 17) hx hb hts hinX2 hown hK hP 0 rfl rfl 5 (by decide) (hts (.fieldLink RX2 19 "LoanCasesModel" "numbers" "[J") (by decide +kernel)) (fun _ h9 => h9) rfl dX2_deep_132 ?_
              refine lv_bipush (v := 10) hx hb dX2_deep_135 (by decide) ?_
              refine lv_iload hx hb dX2_deep_137 (lv_at hl 0 rfl) ?_
              refine lv_imul hx hb dX2_deep_139 ?_
              refine lv_iload hx hb dX2_deep_140 (lv_at hl 5 rfl) ?_
              refine lv_iadd hx hb dX2_deep_142 ?_
              refine va_lald (f := G) hx hb hK hP 4 1 rfl rfl (mpl_in (mfl_ge (hpv _ (vin_lt (mpl_in (mT_in hn6 hn h_1) h_6 (hsz _ (vin_lt (mT_in hn6 hn h_1)))))) (Int32.not_lt.mpr c_8)) h_9 (hsz _ (vin_lt (mfl_ge (hpv _ (vin_lt (mpl_in (mT_in hn6 hn h_1) h_6 (hsz _ (vin_lt (mT_in hn6 hn h_1)))))) (Int32.not_lt.mpr c_8))))) dX2_deep_143 ?_
              refine lv_l2i hx hb dX2_deep_144 rfl ?_
              refine lv_goto (tgt := 164) hx hb dX2_deep_145 (by decide) ?_
              exact W.iret (v := ((G ((10 * (S0 4 ((10 * t) + i).toNatClampNeg)) + z).toNatClampNeg).toInt32)) hx hb hr (fun t9 ht hW => ⟨⟨((G ((10 * (S0 4 ((10 * t) + i).toNatClampNeg)) + z).toNatClampNeg).toInt32), (S0, G), rfl, (by rw [← hS0]; exact ⟨by simp only [ms_deep, ms_deep2, mPl, cif_t h_1, cif_t c_3, cif_t h_4, cif_t h_6, cif_t c_8, cif_t h_9, sU_s], by simp only [ms_deep, ms_deep2, mPl, cif_t h_1, cif_t c_3, cif_t h_4, cif_t h_6, cif_t c_8, cif_t h_9, sU_s]⟩), by rw [ht]; exact hP, va_K.moved hW.alike hK, by rw [hAe]; exact hD⟩, hS.F ht⟩) hS.2.2 dX2_deep_164
            · refine lv_if_ne (tgt := 125) hx hb dX2_deep_116 (by decide) (fun c_12 => absurd c_12 (by decide)) (fun c_12 => ?_)
              refine lv_aload_n hx hb dX2_deep_119 rfl (lv_at hl 1 rfl) ?_
              refine lv_iconst (v := 3) hx hb dX2_deep_120 (by decide) ?_
              refine qw_i (w2 := []) (va_runV (As := [.int 3]) (rest := []) ⟨hx, hb, hml, hown, hts⟩ (c_X2_found l D kI kJ kL a S0 G H.size 3 (by unfold vp_in; decide)) (cwV 1 hts gX2_deep_X2_found rfl rfl rfl (by decide +kernel) ⟨Nat.le_of_ble_eq_true rfl, Nat.le_of_ble_eq_true rfl⟩) (q_wV (w2 := []) hK hN (by rw [List.append_nil]; exact hP) (by rw [List.append_nil]; exact hD) (va_recv hK hP (ci := 5) (q0 := 0) rfl rfl)) rfl rfl hl.1 rfl (lv_room (Nat.le_of_ble_eq_true rfl)) dX2_deep_121 ⟨Nat.le_of_ble_eq_true rfl, Nat.le_of_ble_eq_true rfl⟩) (by rw [List.append_nil]; exact hP) (by rw [List.append_nil]; exact hD) hS hA (fun r_14 u_15 H locs h_13 hP hD hS => ?_)
              rw [List.append_nil] at hP hD
              obtain ⟨rfl, rfl⟩ := h_13
              have hP : va_P D vwCl (mW kI kJ a (xfd S0 3) G) H := hP
              have hD : va_D A (mW kI kJ a (xfd S0 3) G) := hD
              exact W.iret (v := (-30 - 3)) hx hb hr (fun t9 ht hW => ⟨⟨(-30 - 3), ((xfd S0 3), G), rfl, (by rw [← hS0]; exact ⟨by simp only [ms_deep, ms_deep2, mPl, cif_t h_1, cif_t c_3, cif_t h_4, cif_t h_6, cif_t c_8, cif_f h_9, sU_s], by simp only [ms_deep, ms_deep2, mPl, cif_t h_1, cif_t c_3, cif_t h_4, cif_t h_6, cif_t c_8, cif_f h_9, sU_s]⟩), by rw [ht]; exact hP, va_K.moved hW.alike hK, by rw [hAe]; exact hD⟩, hS.F ht⟩) hS.2.2 dX2_deep_124
          · refine lv_aload_n hx hb dX2_deep_93 rfl (lv_at hl 1 rfl) ?_
            refine lv_iconst (v := 2) hx hb dX2_deep_94 (by decide) ?_
            refine qw_i (w2 := []) (va_runV (As := [.int 2]) (rest := []) ⟨hx, hb, hml, hown, hts⟩ (c_X2_found l D kI kJ kL a S0 G H.size 2 (by unfold vp_in; decide)) (cwV 1 hts gX2_deep_X2_found rfl rfl rfl (by decide +kernel) ⟨Nat.le_of_ble_eq_true rfl, Nat.le_of_ble_eq_true rfl⟩) (q_wV (w2 := []) hK hN (by rw [List.append_nil]; exact hP) (by rw [List.append_nil]; exact hD) (va_recv hK hP (ci := 5) (q0 := 0) rfl rfl)) rfl rfl hl.1 rfl (lv_room (Nat.le_of_ble_eq_true rfl)) dX2_deep_95 ⟨Nat.le_of_ble_eq_true rfl, Nat.le_of_ble_eq_true rfl⟩) (by rw [List.append_nil]; exact hP) (by rw [List.append_nil]; exact hD) hS hA (fun r_17 u_18 H locs h_16 hP hD hS => ?_)
            rw [List.append_nil] at hP hD
            obtain ⟨rfl, rfl⟩ := h_16
            have hP : va_P D vwCl (mW kI kJ a (xfd S0 2) G) H := hP
            have hD : va_D A (mW kI kJ a (xfd S0 2) G) := hD
            exact W.iret (v := (-30 - 2)) hx hb hr (fun t9 ht hW => ⟨⟨(-30 - 2), ((xfd S0 2), G), rfl, (by rw [← hS0]; exact ⟨by simp only [ms_deep, ms_deep2, mPl, cif_t h_1, cif_t c_3, cif_t h_4, cif_t h_6, cif_f c_8, sU_s], by simp only [ms_deep, ms_deep2, mPl, cif_t h_1, cif_t c_3, cif_t h_4, cif_t h_6, cif_f c_8, sU_s]⟩), by rw [ht]; exact hP, va_K.moved hW.alike hK, by rw [hAe]; exact hD⟩, hS.F ht⟩) hS.2.2 dX2_deep_98
        · refine lv_if_ne (tgt := 75) hx hb dX2_deep_66 (by decide) (fun c_19 => absurd c_19 (by decide)) (fun c_19 => ?_)
          refine lv_aload_n hx hb dX2_deep_69 rfl (lv_at hl 0 rfl) ?_
          refine lv_iconst (v := 3) hx hb dX2_deep_70 (by decide) ?_
          refine qw_i (w2 := []) (va_runV (As := [.int 3]) (rest := []) ⟨hx, hb, hml, hown, hts⟩ (c_X2_found l D kI kJ kL a S0 G H.size 3 (by unfold vp_in; decide)) (cwV 1 hts gX2_deep_X2_found rfl rfl rfl (by decide +kernel) ⟨Nat.le_of_ble_eq_true rfl, Nat.le_of_ble_eq_true rfl⟩) (q_wV (w2 := []) hK hN (by rw [List.append_nil]; exact hP) (by rw [List.append_nil]; exact hD) (va_recv hK hP (ci := 5) (q0 := 0) rfl rfl)) rfl rfl hl.1 rfl (lv_room (Nat.le_of_ble_eq_true rfl)) dX2_deep_71 ⟨Nat.le_of_ble_eq_true rfl, Nat.le_of_ble_eq_true rfl⟩) (by rw [List.append_nil]; exact hP) (by rw [List.append_nil]; exact hD) hS hA (fun r_21 u_22 H locs h_20 hP hD hS => ?_)
          rw [List.append_nil] at hP hD
          obtain ⟨rfl, rfl⟩ := h_20
          have hP : va_P D vwCl (mW kI kJ a (xfd S0 3) G) H := hP
          have hD : va_D A (mW kI kJ a (xfd S0 3) G) := hD
          exact W.iret (v := (-30 - 3)) hx hb hr (fun t9 ht hW => ⟨⟨(-30 - 3), ((xfd S0 3), G), rfl, (by rw [← hS0]; exact ⟨by simp only [ms_deep, ms_deep2, mPl, cif_t h_1, cif_t c_3, cif_t h_4, cif_f h_6, sU_s], by simp only [ms_deep, ms_deep2, mPl, cif_t h_1, cif_t c_3, cif_t h_4, cif_f h_6, sU_s]⟩), by rw [ht]; exact hP, va_K.moved hW.alike hK, by rw [hAe]; exact hD⟩, hS.F ht⟩) hS.2.2 dX2_deep_74
      · refine lv_if_ne (tgt := 51) hx hb dX2_deep_42 (by decide) (fun c_23 => absurd c_23 (by decide)) (fun c_23 => ?_)
        refine lv_aload_n hx hb dX2_deep_45 rfl (lv_at hl 0 rfl) ?_
        refine lv_iconst (v := 1) hx hb dX2_deep_46 (by decide) ?_
        refine qw_i (w2 := []) (va_runV (As := [.int 1]) (rest := []) ⟨hx, hb, hml, hown, hts⟩ (c_X2_found l D kI kJ kL a S0 G H.size 1 (by unfold vp_in; decide)) (cwV 1 hts gX2_deep_X2_found rfl rfl rfl (by decide +kernel) ⟨Nat.le_of_ble_eq_true rfl, Nat.le_of_ble_eq_true rfl⟩) (q_wV (w2 := []) hK hN (by rw [List.append_nil]; exact hP) (by rw [List.append_nil]; exact hD) (va_recv hK hP (ci := 5) (q0 := 0) rfl rfl)) rfl rfl hl.1 rfl (lv_room (Nat.le_of_ble_eq_true rfl)) dX2_deep_47 ⟨Nat.le_of_ble_eq_true rfl, Nat.le_of_ble_eq_true rfl⟩) (by rw [List.append_nil]; exact hP) (by rw [List.append_nil]; exact hD) hS hA (fun r_25 u_26 H locs h_24 hP hD hS => ?_)
        rw [List.append_nil] at hP hD
        obtain ⟨rfl, rfl⟩ := h_24
        have hP : va_P D vwCl (mW kI kJ a (xfd S0 1) G) H := hP
        have hD : va_D A (mW kI kJ a (xfd S0 1) G) := hD
        exact W.iret (v := (-30 - 1)) hx hb hr (fun t9 ht hW => ⟨⟨(-30 - 1), ((xfd S0 1), G), rfl, (by rw [← hS0]; exact ⟨by simp only [ms_deep, ms_deep2, mPl, cif_t h_1, cif_t c_3, cif_f h_4, sU_s], by simp only [ms_deep, ms_deep2, mPl, cif_t h_1, cif_t c_3, cif_f h_4, sU_s]⟩), by rw [ht]; exact hP, va_K.moved hW.alike hK, by rw [hAe]; exact hD⟩, hS.F ht⟩) hS.2.2 dX2_deep_50
    · refine lv_iload_n hx hb dX2_deep_21 rfl (lv_at hl 2 rfl) ?_
      refine lv_bipush (v := 15) hx hb dX2_deep_22 (by decide) ?_
      refine lv_icmp_eq (tgt := 36) hx hb dX2_deep_24 (by decide) (fun c_27 => ?_) (fun c_27 => ?_)
      · refine lv_aload_n hx hb dX2_deep_36 rfl (lv_at hl 0 rfl) ?_
        refine lv_iload_n hx hb dX2_deep_37 rfl (lv_at hl 1 rfl) ?_
        refine lv_iload_n hx hb dX2_deep_38 rfl (lv_at hl 2 rfl) ?_
        refine vp_callSi (W.runV (As := [.int t, .int k]) (rest := []) ⟨hx, hb, hml, hown, hts⟩ (c_X2_isOf l D kI kJ kL a S0 G t k (mT_in hn6 hn h_1) hfm) (cwV 2 hts gX2_deep_X2_isOf rfl rfl rfl (by decide +kernel) ⟨Nat.le_of_ble_eq_true rfl, Nat.le_of_ble_eq_true rfl⟩) (q_rV (w2 := []) hK hN (by rw [List.append_nil]; exact hP) (va_recv hK hP (ci := 5) (q0 := 0) rfl rfl)) rfl rfl hl.1 rfl (lv_room (Nat.le_of_ble_eq_true rfl)) dX2_deep_39 ⟨Nat.le_of_ble_eq_true rfl, Nat.le_of_ble_eq_true rfl⟩) (fun r_h_28 h_28 => ?_)
        rcases h_28 with ⟨rfl, h_28⟩ | ⟨rfl, h_28⟩
        · refine lv_if_ne (tgt := 51) hx hb dX2_deep_42 (by decide) (fun c_29 => ?_) (fun c_29 => absurd c_29 (by decide))
          refine lv_iload_n hx hb dX2_deep_51 rfl (lv_at hl 3 rfl) ?_
          refine lv_i2l hx hb dX2_deep_52 rfl ?_
          refine lv_lconst (v := 0) hx hb dX2_deep_53 (by decide) ?_
          refine lv_aload_n hx hb dX2_deep_54 rfl (lv_at hl 0 rfl) ?_
          refine va_get (D := D) (ci := 5) (v := .ref (a 3)) (C := RX2) (T := TX2) (N := 17) hx hb hts hinX2 hown hK hP 0 rfl rfl 4 (by decide) (hts (.fieldLink RX2 16 "LoanCasesModel" "sizes" "[I") (by decide +kernel)) (fun _ h9 => h9) rfl dX2_deep_55 ?_
          refine lv_iload_n hx hb dX2_deep_58 rfl (lv_at hl 1 rfl) ?_
          refine va_iald (f := S0 2) hx hb hK hP 3 0 rfl rfl (mT_in hn6 hn h_1) dX2_deep_59 ?_
          refine lv_iconst (v := 1) hx hb dX2_deep_60 (by decide) ?_
          refine lv_isub hx hb dX2_deep_61 ?_
          refine lv_i2l hx hb dX2_deep_62 rfl ?_
          refine vp_callSi (W.runS (As := [.long (i.toInt64), .long 0, .long (((S0 2 t.toNatClampNeg) - 1).toInt64)]) (rest := []) ⟨hx, hb, hml, hown, hts⟩ (c_X2_in l D kI kJ kL (i.toInt64) 0 (((S0 2 t.toNatClampNeg) - 1).toInt64)) (va_cwS 3 hts gX2_deep_X2_in rfl rfl rfl (by decide +kernel) ⟨Nat.le_of_ble_eq_true rfl, Nat.le_of_ble_eq_true rfl⟩) (q_rS0 hK hN) rfl rfl hl.1 rfl (lv_room (Nat.le_of_ble_eq_true rfl)) dX2_deep_63 ⟨Nat.le_of_ble_eq_true rfl, Nat.le_of_ble_eq_true rfl⟩) (fun r_h_30 h_30 => ?_)
          rcases h_30 with ⟨rfl, h_30⟩ | ⟨rfl, h_30⟩
          · refine lv_if_ne (tgt := 75) hx hb dX2_deep_66 (by decide) (fun c_31 => ?_) (fun c_31 => absurd c_31 (by decide))
            refine lv_aload_n hx hb dX2_deep_75 rfl (lv_at hl 0 rfl) ?_
            refine va_get (D := D) (ci := 5) (v := .ref (a 5)) (C := RX2) (T := TX2) (N := 17) hx hb hts hinX2 hown hK hP 0 rfl rfl 6 (by decide) (hts (.fieldLink RX2 23 "LoanCasesModel" "places" "[I") (by decide +kernel)) (fun _ h9 => h9) rfl dX2_deep_76 ?_
            refine lv_bipush (v := 10) hx hb dX2_deep_79 (by decide) ?_
            refine lv_iload_n hx hb dX2_deep_81 rfl (lv_at hl 1 rfl) ?_
            refine lv_imul hx hb dX2_deep_82 ?_
            refine lv_iload_n hx hb dX2_deep_83 rfl (lv_at hl 3 rfl) ?_
            refine lv_iadd hx hb dX2_deep_84 ?_
            refine va_iald (f := S0 4) hx hb hK hP 5 0 rfl rfl (mpl_in (mT_in hn6 hn h_1) h_30 (hsz _ (vin_lt (mT_in hn6 hn h_1)))) dX2_deep_85 ?_
            refine lv_istore (lv' := [(5, .int (S0 4 ((10 * t) + i).toNatClampNeg)), (0, .ref (a 0)), (1, .int t), (2, .int k), (3, .int i), (4, .int z)]) hx hb dX2_deep_86 hl (by decide) rfl (fun ls hl => ?_)
            refine lv_iload hx hb dX2_deep_88 (lv_at hl 0 rfl) ?_
            refine lv_if_ge (tgt := 99) hx hb dX2_deep_90 (by decide) (fun c_32 => ?_) (fun c_32 => ?_)
            · refine lv_iload hx hb dX2_deep_99 (lv_at hl 5 rfl) ?_
              refine lv_i2l hx hb dX2_deep_101 rfl ?_
              refine lv_lconst (v := 0) hx hb dX2_deep_102 (by decide) ?_
              refine lv_aload_n hx hb dX2_deep_103 rfl (lv_at hl 1 rfl) ?_
              refine va_get (D := D) (ci := 5) (v := .ref (a 3)) (C := RX2) (T := TX2) (N := 17) hx hb hts hinX2 hown hK hP 0 rfl rfl 4 (by decide) (hts (.fieldLink RX2 16 "LoanCasesModel" "sizes" "[I") (by decide +kernel)) (fun _ h9 => h9) rfl dX2_deep_104 ?_
              refine lv_iload hx hb dX2_deep_107 (lv_at hl 0 rfl) ?_
              refine va_iald (f := S0 2) hx hb hK hP 3 0 rfl rfl (mfl_ge (hpv _ (vin_lt (mpl_in (mT_in hn6 hn h_1) h_30 (hsz _ (vin_lt (mT_in hn6 hn h_1)))))) (Int32.not_lt.mpr c_32)) dX2_deep_109 ?_
              refine lv_iconst (v := 1) hx hb dX2_deep_110 (by decide) ?_
              refine lv_isub hx hb dX2_deep_111 ?_
              refine lv_i2l hx hb dX2_deep_112 rfl ?_
              refine vp_callSi (W.runS (As := [.long (z.toInt64), .long 0, .long (((S0 2 (S0 4 ((10 * t) + i).toNatClampNeg).toNatClampNeg) - 1).toInt64)]) (rest := []) ⟨hx, hb, hml, hown, hts⟩ (c_X2_in l D kI kJ kL (z.toInt64) 0 (((S0 2 (S0 4 ((10 * t) + i).toNatClampNeg).toNatClampNeg) - 1).toInt64)) (va_cwS 3 hts gX2_deep_X2_in rfl rfl rfl (by decide +kernel) ⟨Nat.le_of_ble_eq_true rfl, Nat.le_of_ble_eq_true rfl⟩) (q_rS0 hK hN) rfl rfl hl.1 rfl (lv_room (Nat.le_of_ble_eq_true rfl)) dX2_deep_113 ⟨Nat.le_of_ble_eq_true rfl, Nat.le_of_ble_eq_true rfl⟩) (fun r_h_33 h_33 => ?_)
              rcases h_33 with ⟨rfl, h_33⟩ | ⟨rfl, h_33⟩
              · refine lv_if_ne (tgt := 125) hx hb dX2_deep_116 (by decide) (fun c_34 => ?_) (fun c_34 => absurd c_34 (by decide))
                refine lv_iload_n hx hb dX2_deep_125 rfl (lv_at hl 3 rfl) ?_
                refine lv_bipush (v := 9) hx hb dX2_deep_126 (by decide) ?_
                refine lv_icmp_ne (tgt := 148) hx hb dX2_deep_128 (by decide) (fun c_35 => ?_) (fun c_35 => absurd c_35 c_3)
                refine lv_aload_n hx hb dX2_deep_148 rfl (lv_at hl 1 rfl) ?_
                refine va_get (D := D) (ci := 5) (v := .ref (a 5)) (C := RX2) (T := TX2) (N := 17) hx hb hts hinX2 hown hK hP 0 rfl rfl 6 (by decide) (hts (.fieldLink RX2 23 "LoanCasesModel" "places" "[I") (by decide +kernel)) (fun _ h9 => h9) rfl dX2_deep_149 ?_
                refine lv_bipush (v := 10) hx hb dX2_deep_152 (by decide) ?_
                refine lv_iload hx hb dX2_deep_154 (lv_at hl 0 rfl) ?_
                refine lv_imul hx hb dX2_deep_156 ?_
                refine lv_iload hx hb dX2_deep_157 (lv_at hl 5 rfl) ?_
                refine lv_iadd hx hb dX2_deep_159 ?_
                refine va_iald (f := S0 4) hx hb hK hP 5 0 rfl rfl (mpl_in (mfl_ge (hpv _ (vin_lt (mpl_in (mT_in hn6 hn h_1) h_30 (hsz _ (vin_lt (mT_in hn6 hn h_1)))))) (Int32.not_lt.mpr c_32)) h_33 (hsz _ (vin_lt (mfl_ge (hpv _ (vin_lt (mpl_in (mT_in hn6 hn h_1) h_30 (hsz _ (vin_lt (mT_in hn6 hn h_1)))))) (Int32.not_lt.mpr c_32))))) dX2_deep_160 ?_
                refine vp_callSi (W.runS (As := [.int (S0 4 ((10 * (S0 4 ((10 * t) + i).toNatClampNeg)) + z).toNatClampNeg)]) (rest := []) ⟨hx, hb, hml, hown, hts⟩ (c_X2_told l D kI kJ kL (S0 4 ((10 * (S0 4 ((10 * t) + i).toNatClampNeg)) + z).toNatClampNeg)) (va_cwS 1 hts gX2_deep_X2_told rfl rfl rfl (by decide +kernel) ⟨Nat.le_of_ble_eq_true rfl, Nat.le_of_ble_eq_true rfl⟩) (q_rS0 hK hN) rfl rfl hl.1 rfl (lv_room (Nat.le_of_ble_eq_true rfl)) dX2_deep_161 ⟨Nat.le_of_ble_eq_true rfl, Nat.le_of_ble_eq_true rfl⟩) (fun r_37 h_36 => ?_)
                subst h_36
                exact W.iret (v := (mto (S0 4 ((10 * (S0 4 ((10 * t) + i).toNatClampNeg)) + z).toNatClampNeg))) hx hb hr (fun t9 ht hW => ⟨⟨(mto (S0 4 ((10 * (S0 4 ((10 * t) + i).toNatClampNeg)) + z).toNatClampNeg)), (S0, G), rfl, (by rw [← hS0]; exact ⟨by simp only [ms_deep, ms_deep2, mPl, cif_t h_1, cif_f c_3, cif_t c_27, cif_t h_28, cif_t h_30, cif_t c_32, cif_t h_33, sU_s], by simp only [ms_deep, ms_deep2, mPl, cif_t h_1, cif_f c_3, cif_t c_27, cif_t h_28, cif_t h_30, cif_t c_32, cif_t h_33, sU_s]⟩), by rw [ht]; exact hP, va_K.moved hW.alike hK, by rw [hAe]; exact hD⟩, hS.F ht⟩) hS.2.2 dX2_deep_164
              · refine lv_if_ne (tgt := 125) hx hb dX2_deep_116 (by decide) (fun c_38 => absurd c_38 (by decide)) (fun c_38 => ?_)
                refine lv_aload_n hx hb dX2_deep_119 rfl (lv_at hl 1 rfl) ?_
                refine lv_iconst (v := 3) hx hb dX2_deep_120 (by decide) ?_
                refine qw_i (w2 := []) (va_runV (As := [.int 3]) (rest := []) ⟨hx, hb, hml, hown, hts⟩ (c_X2_found l D kI kJ kL a S0 G H.size 3 (by unfold vp_in; decide)) (cwV 1 hts gX2_deep_X2_found rfl rfl rfl (by decide +kernel) ⟨Nat.le_of_ble_eq_true rfl, Nat.le_of_ble_eq_true rfl⟩) (q_wV (w2 := []) hK hN (by rw [List.append_nil]; exact hP) (by rw [List.append_nil]; exact hD) (va_recv hK hP (ci := 5) (q0 := 0) rfl rfl)) rfl rfl hl.1 rfl (lv_room (Nat.le_of_ble_eq_true rfl)) dX2_deep_121 ⟨Nat.le_of_ble_eq_true rfl, Nat.le_of_ble_eq_true rfl⟩) (by rw [List.append_nil]; exact hP) (by rw [List.append_nil]; exact hD) hS hA (fun r_40 u_41 H locs h_39 hP hD hS => ?_)
                rw [List.append_nil] at hP hD
                obtain ⟨rfl, rfl⟩ := h_39
                have hP : va_P D vwCl (mW kI kJ a (xfd S0 3) G) H := hP
                have hD : va_D A (mW kI kJ a (xfd S0 3) G) := hD
                exact W.iret (v := (-30 - 3)) hx hb hr (fun t9 ht hW => ⟨⟨(-30 - 3), ((xfd S0 3), G), rfl, (by rw [← hS0]; exact ⟨by simp only [ms_deep, ms_deep2, mPl, cif_t h_1, cif_f c_3, cif_t c_27, cif_t h_28, cif_t h_30, cif_t c_32, cif_f h_33, sU_s], by simp only [ms_deep, ms_deep2, mPl, cif_t h_1, cif_f c_3, cif_t c_27, cif_t h_28, cif_t h_30, cif_t c_32, cif_f h_33, sU_s]⟩), by rw [ht]; exact hP, va_K.moved hW.alike hK, by rw [hAe]; exact hD⟩, hS.F ht⟩) hS.2.2 dX2_deep_124
            · refine lv_aload_n hx hb dX2_deep_93 rfl (lv_at hl 1 rfl) ?_
              refine lv_iconst (v := 2) hx hb dX2_deep_94 (by decide) ?_
              refine qw_i (w2 := []) (va_runV (As := [.int 2]) (rest := []) ⟨hx, hb, hml, hown, hts⟩ (c_X2_found l D kI kJ kL a S0 G H.size 2 (by unfold vp_in; decide)) (cwV 1 hts gX2_deep_X2_found rfl rfl rfl (by decide +kernel) ⟨Nat.le_of_ble_eq_true rfl, Nat.le_of_ble_eq_true rfl⟩) (q_wV (w2 := []) hK hN (by rw [List.append_nil]; exact hP) (by rw [List.append_nil]; exact hD) (va_recv hK hP (ci := 5) (q0 := 0) rfl rfl)) rfl rfl hl.1 rfl (lv_room (Nat.le_of_ble_eq_true rfl)) dX2_deep_95 ⟨Nat.le_of_ble_eq_true rfl, Nat.le_of_ble_eq_true rfl⟩) (by rw [List.append_nil]; exact hP) (by rw [List.append_nil]; exact hD) hS hA (fun r_43 u_44 H locs h_42 hP hD hS => ?_)
              rw [List.append_nil] at hP hD
              obtain ⟨rfl, rfl⟩ := h_42
              have hP : va_P D vwCl (mW kI kJ a (xfd S0 2) G) H := hP
              have hD : va_D A (mW kI kJ a (xfd S0 2) G) := hD
              exact W.iret (v := (-30 - 2)) hx hb hr (fun t9 ht hW => ⟨⟨(-30 - 2), ((xfd S0 2), G), rfl, (by rw [← hS0]; exact ⟨by simp only [ms_deep, ms_deep2, mPl, cif_t h_1, cif_f c_3, cif_t c_27, cif_t h_28, cif_t h_30, cif_f c_32, sU_s], by simp only [ms_deep, ms_deep2, mPl, cif_t h_1, cif_f c_3, cif_t c_27, cif_t h_28, cif_t h_30, cif_f c_32, sU_s]⟩), by rw [ht]; exact hP, va_K.moved hW.alike hK, by rw [hAe]; exact hD⟩, hS.F ht⟩) hS.2.2 dX2_deep_98
          · refine lv_if_ne (tgt := 75) hx hb dX2_deep_66 (by decide) (fun c_45 => absurd c_45 (by decide)) (fun c_45 => ?_)
            refine lv_aload_n hx hb dX2_deep_69 rfl (lv_at hl 0 rfl) ?_
            refine lv_iconst (v := 3) hx hb dX2_deep_70 (by decide) ?_
            refine qw_i (w2 := []) (va_runV (As := [.int 3]) (rest := []) ⟨hx, hb, hml, hown, hts⟩ (c_X2_found l D kI kJ kL a S0 G H.size 3 (by unfold vp_in; decide)) (cwV 1 hts gX2_deep_X2_found rfl rfl rfl (by decide +kernel) ⟨Nat.le_of_ble_eq_true rfl, Nat.le_of_ble_eq_true rfl⟩) (q_wV (w2 := []) hK hN (by rw [List.append_nil]; exact hP) (by rw [List.append_nil]; exact hD) (va_recv hK hP (ci := 5) (q0 := 0) rfl rfl)) rfl rfl hl.1 rfl (lv_room (Nat.le_of_ble_eq_true rfl)) dX2_deep_71 ⟨Nat.le_of_ble_eq_true rfl, Nat.le_of_ble_eq_true rfl⟩) (by rw [List.append_nil]; exact hP) (by rw [List.append_nil]; exact hD) hS hA (fun r_47 u_48 H locs h_46 hP hD hS => ?_)
            rw [List.append_nil] at hP hD
            obtain ⟨rfl, rfl⟩ := h_46
            have hP : va_P D vwCl (mW kI kJ a (xfd S0 3) G) H := hP
            have hD : va_D A (mW kI kJ a (xfd S0 3) G) := hD
            exact W.iret (v := (-30 - 3)) hx hb hr (fun t9 ht hW => ⟨⟨(-30 - 3), ((xfd S0 3), G), rfl, (by rw [← hS0]; exact ⟨by simp only [ms_deep, ms_deep2, mPl, cif_t h_1, cif_f c_3, cif_t c_27, cif_t h_28, cif_f h_30, sU_s], by simp only [ms_deep, ms_deep2, mPl, cif_t h_1, cif_f c_3, cif_t c_27, cif_t h_28, cif_f h_30, sU_s]⟩), by rw [ht]; exact hP, va_K.moved hW.alike hK, by rw [hAe]; exact hD⟩, hS.F ht⟩) hS.2.2 dX2_deep_74
        · refine lv_if_ne (tgt := 51) hx hb dX2_deep_42 (by decide) (fun c_49 => absurd c_49 (by decide)) (fun c_49 => ?_)
          refine lv_aload_n hx hb dX2_deep_45 rfl (lv_at hl 0 rfl) ?_
          refine lv_iconst (v := 1) hx hb dX2_deep_46 (by decide) ?_
          refine qw_i (w2 := []) (va_runV (As := [.int 1]) (rest := []) ⟨hx, hb, hml, hown, hts⟩ (c_X2_found l D kI kJ kL a S0 G H.size 1 (by unfold vp_in; decide)) (cwV 1 hts gX2_deep_X2_found rfl rfl rfl (by decide +kernel) ⟨Nat.le_of_ble_eq_true rfl, Nat.le_of_ble_eq_true rfl⟩) (q_wV (w2 := []) hK hN (by rw [List.append_nil]; exact hP) (by rw [List.append_nil]; exact hD) (va_recv hK hP (ci := 5) (q0 := 0) rfl rfl)) rfl rfl hl.1 rfl (lv_room (Nat.le_of_ble_eq_true rfl)) dX2_deep_47 ⟨Nat.le_of_ble_eq_true rfl, Nat.le_of_ble_eq_true rfl⟩) (by rw [List.append_nil]; exact hP) (by rw [List.append_nil]; exact hD) hS hA (fun r_51 u_52 H locs h_50 hP hD hS => ?_)
          rw [List.append_nil] at hP hD
          obtain ⟨rfl, rfl⟩ := h_50
          have hP : va_P D vwCl (mW kI kJ a (xfd S0 1) G) H := hP
          have hD : va_D A (mW kI kJ a (xfd S0 1) G) := hD
          exact W.iret (v := (-30 - 1)) hx hb hr (fun t9 ht hW => ⟨⟨(-30 - 1), ((xfd S0 1), G), rfl, (by rw [← hS0]; exact ⟨by simp only [ms_deep, ms_deep2, mPl, cif_t h_1, cif_f c_3, cif_t c_27, cif_f h_28, sU_s], by simp only [ms_deep, ms_deep2, mPl, cif_t h_1, cif_f c_3, cif_t c_27, cif_f h_28, sU_s]⟩), by rw [ht]; exact hP, va_K.moved hW.alike hK, by rw [hAe]; exact hD⟩, hS.F ht⟩) hS.2.2 dX2_deep_50
      · refine lv_iload_n hx hb dX2_deep_27 rfl (lv_at hl 2 rfl) ?_
        refine lv_bipush (v := 16) hx hb dX2_deep_28 (by decide) ?_
        refine lv_icmp_eq (tgt := 36) hx hb dX2_deep_30 (by decide) (fun c_53 => ?_) (fun c_53 => ?_)
        · refine lv_aload_n hx hb dX2_deep_36 rfl (lv_at hl 0 rfl) ?_
          refine lv_iload_n hx hb dX2_deep_37 rfl (lv_at hl 1 rfl) ?_
          refine lv_iload_n hx hb dX2_deep_38 rfl (lv_at hl 2 rfl) ?_
          refine vp_callSi (W.runV (As := [.int t, .int k]) (rest := []) ⟨hx, hb, hml, hown, hts⟩ (c_X2_isOf l D kI kJ kL a S0 G t k (mT_in hn6 hn h_1) hfm) (cwV 2 hts gX2_deep_X2_isOf rfl rfl rfl (by decide +kernel) ⟨Nat.le_of_ble_eq_true rfl, Nat.le_of_ble_eq_true rfl⟩) (q_rV (w2 := []) hK hN (by rw [List.append_nil]; exact hP) (va_recv hK hP (ci := 5) (q0 := 0) rfl rfl)) rfl rfl hl.1 rfl (lv_room (Nat.le_of_ble_eq_true rfl)) dX2_deep_39 ⟨Nat.le_of_ble_eq_true rfl, Nat.le_of_ble_eq_true rfl⟩) (fun r_h_54 h_54 => ?_)
          rcases h_54 with ⟨rfl, h_54⟩ | ⟨rfl, h_54⟩
          · refine lv_if_ne (tgt := 51) hx hb dX2_deep_42 (by decide) (fun c_55 => ?_) (fun c_55 => absurd c_55 (by decide))
            refine lv_iload_n hx hb dX2_deep_51 rfl (lv_at hl 3 rfl) ?_
            refine lv_i2l hx hb dX2_deep_52 rfl ?_
            refine lv_lconst (v := 0) hx hb dX2_deep_53 (by decide) ?_
            refine lv_aload_n hx hb dX2_deep_54 rfl (lv_at hl 0 rfl) ?_
            refine va_get (D := D) (ci := 5) (v := .ref (a 3)) (C := RX2) (T := TX2) (N := 17) hx hb hts hinX2 hown hK hP 0 rfl rfl 4 (by decide) (hts (.fieldLink RX2 16 "LoanCasesModel" "sizes" "[I") (by decide +kernel)) (fun _ h9 => h9) rfl dX2_deep_55 ?_
            refine lv_iload_n hx hb dX2_deep_58 rfl (lv_at hl 1 rfl) ?_
            refine va_iald (f := S0 2) hx hb hK hP 3 0 rfl rfl (mT_in hn6 hn h_1) dX2_deep_59 ?_
            refine lv_iconst (v := 1) hx hb dX2_deep_60 (by decide) ?_
            refine lv_isub hx hb dX2_deep_61 ?_
            refine lv_i2l hx hb dX2_deep_62 rfl ?_
            refine vp_callSi (W.runS (As := [.long (i.toInt64), .long 0, .long (((S0 2 t.toNatClampNeg) - 1).toInt64)]) (rest := []) ⟨hx, hb, hml, hown, hts⟩ (c_X2_in l D kI kJ kL (i.toInt64) 0 (((S0 2 t.toNatClampNeg) - 1).toInt64)) (va_cwS 3 hts gX2_deep_X2_in rfl rfl rfl (by decide +kernel) ⟨Nat.le_of_ble_eq_true rfl, Nat.le_of_ble_eq_true rfl⟩) (q_rS0 hK hN) rfl rfl hl.1 rfl (lv_room (Nat.le_of_ble_eq_true rfl)) dX2_deep_63 ⟨Nat.le_of_ble_eq_true rfl, Nat.le_of_ble_eq_true rfl⟩) (fun r_h_56 h_56 => ?_)
            rcases h_56 with ⟨rfl, h_56⟩ | ⟨rfl, h_56⟩
            · refine lv_if_ne (tgt := 75) hx hb dX2_deep_66 (by decide) (fun c_57 => ?_) (fun c_57 => absurd c_57 (by decide))
              refine lv_aload_n hx hb dX2_deep_75 rfl (lv_at hl 0 rfl) ?_
              refine va_get (D := D) (ci := 5) (v := .ref (a 5)) (C := RX2) (T := TX2) (N := 17) hx hb hts hinX2 hown hK hP 0 rfl rfl 6 (by decide) (hts (.fieldLink RX2 23 "LoanCasesModel" "places" "[I") (by decide +kernel)) (fun _ h9 => h9) rfl dX2_deep_76 ?_
              refine lv_bipush (v := 10) hx hb dX2_deep_79 (by decide) ?_
              refine lv_iload_n hx hb dX2_deep_81 rfl (lv_at hl 1 rfl) ?_
              refine lv_imul hx hb dX2_deep_82 ?_
              refine lv_iload_n hx hb dX2_deep_83 rfl (lv_at hl 3 rfl) ?_
              refine lv_iadd hx hb dX2_deep_84 ?_
              refine va_iald (f := S0 4) hx hb hK hP 5 0 rfl rfl (mpl_in (mT_in hn6 hn h_1) h_56 (hsz _ (vin_lt (mT_in hn6 hn h_1)))) dX2_deep_85 ?_
              refine lv_istore (lv' := [(5, .int (S0 4 ((10 * t) + i).toNatClampNeg)), (0, .ref (a 0)), (1, .int t), (2, .int k), (3, .int i), (4, .int z)]) hx hb dX2_deep_86 hl (by decide) rfl (fun ls hl => ?_)
              refine lv_iload hx hb dX2_deep_88 (lv_at hl 0 rfl) ?_
              refine lv_if_ge (tgt := 99) hx hb dX2_deep_90 (by decide) (fun c_58 => ?_) (fun c_58 => ?_)
              · refine lv_iload hx hb dX2_deep_99 (lv_at hl 5 rfl) ?_
                refine lv_i2l hx hb dX2_deep_101 rfl ?_
                refine lv_lconst (v := 0) hx hb dX2_deep_102 (by decide) ?_
                refine lv_aload_n hx hb dX2_deep_103 rfl (lv_at hl 1 rfl) ?_
                refine va_get (D := D) (ci := 5) (v := .ref (a 3)) (C := RX2) (T := TX2) (N := 17) hx hb hts hinX2 hown hK hP 0 rfl rfl 4 (by decide) (hts (.fieldLink RX2 16 "LoanCasesModel" "sizes" "[I") (by decide +kernel)) (fun _ h9 => h9) rfl dX2_deep_104 ?_
                refine lv_iload hx hb dX2_deep_107 (lv_at hl 0 rfl) ?_
                refine va_iald (f := S0 2) hx hb hK hP 3 0 rfl rfl (mfl_ge (hpv _ (vin_lt (mpl_in (mT_in hn6 hn h_1) h_56 (hsz _ (vin_lt (mT_in hn6 hn h_1)))))) (Int32.not_lt.mpr c_58)) dX2_deep_109 ?_
                refine lv_iconst (v := 1) hx hb dX2_deep_110 (by decide) ?_
                refine lv_isub hx hb dX2_deep_111 ?_
                refine lv_i2l hx hb dX2_deep_112 rfl ?_
                refine vp_callSi (W.runS (As := [.long (z.toInt64), .long 0, .long (((S0 2 (S0 4 ((10 * t) + i).toNatClampNeg).toNatClampNeg) - 1).toInt64)]) (rest := []) ⟨hx, hb, hml, hown, hts⟩ (c_X2_in l D kI kJ kL (z.toInt64) 0 (((S0 2 (S0 4 ((10 * t) + i).toNatClampNeg).toNatClampNeg) - 1).toInt64)) (va_cwS 3 hts gX2_deep_X2_in rfl rfl rfl (by decide +kernel) ⟨Nat.le_of_ble_eq_true rfl, Nat.le_of_ble_eq_true rfl⟩) (q_rS0 hK hN) rfl rfl hl.1 rfl (lv_room (Nat.le_of_ble_eq_true rfl)) dX2_deep_113 ⟨Nat.le_of_ble_eq_true rfl, Nat.le_of_ble_eq_true rfl⟩) (fun r_h_59 h_59 => ?_)
                rcases h_59 with ⟨rfl, h_59⟩ | ⟨rfl, h_59⟩
                · refine lv_if_ne (tgt := 125) hx hb dX2_deep_116 (by decide) (fun c_60 => ?_) (fun c_60 => absurd c_60 (by decide))
                  refine lv_iload_n hx hb dX2_deep_125 rfl (lv_at hl 3 rfl) ?_
                  refine lv_bipush (v := 9) hx hb dX2_deep_126 (by decide) ?_
                  refine lv_icmp_ne (tgt := 148) hx hb dX2_deep_128 (by decide) (fun c_61 => ?_) (fun c_61 => absurd c_61 c_3)
                  refine lv_aload_n hx hb dX2_deep_148 rfl (lv_at hl 1 rfl) ?_
                  refine va_get (D := D) (ci := 5) (v := .ref (a 5)) (C := RX2) (T := TX2) (N := 17) hx hb hts hinX2 hown hK hP 0 rfl rfl 6 (by decide) (hts (.fieldLink RX2 23 "LoanCasesModel" "places" "[I") (by decide +kernel)) (fun _ h9 => h9) rfl dX2_deep_149 ?_
                  refine lv_bipush (v := 10) hx hb dX2_deep_152 (by decide) ?_
                  refine lv_iload hx hb dX2_deep_154 (lv_at hl 0 rfl) ?_
                  refine lv_imul hx hb dX2_deep_156 ?_
                  refine lv_iload hx hb dX2_deep_157 (lv_at hl 5 rfl) ?_
                  refine lv_iadd hx hb dX2_deep_159 ?_
                  refine va_iald (f := S0 4) hx hb hK hP 5 0 rfl rfl (mpl_in (mfl_ge (hpv _ (vin_lt (mpl_in (mT_in hn6 hn h_1) h_56 (hsz _ (vin_lt (mT_in hn6 hn h_1)))))) (Int32.not_lt.mpr c_58)) h_59 (hsz _ (vin_lt (mfl_ge (hpv _ (vin_lt (mpl_in (mT_in hn6 hn h_1) h_56 (hsz _ (vin_lt (mT_in hn6 hn h_1)))))) (Int32.not_lt.mpr c_58))))) dX2_deep_160 ?_
                  refine vp_callSi (W.runS (As := [.int (S0 4 ((10 * (S0 4 ((10 * t) + i).toNatClampNeg)) + z).toNatClampNeg)]) (rest := []) ⟨hx, hb, hml, hown, hts⟩ (c_X2_told l D kI kJ kL (S0 4 ((10 * (S0 4 ((10 * t) + i).toNatClampNeg)) + z).toNatClampNeg)) (va_cwS 1 hts gX2_deep_X2_told rfl rfl rfl (by decide +kernel) ⟨Nat.le_of_ble_eq_true rfl, Nat.le_of_ble_eq_true rfl⟩) (q_rS0 hK hN) rfl rfl hl.1 rfl (lv_room (Nat.le_of_ble_eq_true rfl)) dX2_deep_161 ⟨Nat.le_of_ble_eq_true rfl, Nat.le_of_ble_eq_true rfl⟩) (fun r_63 h_62 => ?_)
                  subst h_62
                  exact W.iret (v := (mto (S0 4 ((10 * (S0 4 ((10 * t) + i).toNatClampNeg)) + z).toNatClampNeg))) hx hb hr (fun t9 ht hW => ⟨⟨(mto (S0 4 ((10 * (S0 4 ((10 * t) + i).toNatClampNeg)) + z).toNatClampNeg)), (S0, G), rfl, (by rw [← hS0]; exact ⟨by simp only [ms_deep, ms_deep2, mPl, cif_t h_1, cif_f c_3, cif_f c_27, cif_t c_53, cif_t h_54, cif_t h_56, cif_t c_58, cif_t h_59, sU_s], by simp only [ms_deep, ms_deep2, mPl, cif_t h_1, cif_f c_3, cif_f c_27, cif_t c_53, cif_t h_54, cif_t h_56, cif_t c_58, cif_t h_59, sU_s]⟩), by rw [ht]; exact hP, va_K.moved hW.alike hK, by rw [hAe]; exact hD⟩, hS.F ht⟩) hS.2.2 dX2_deep_164
                · refine lv_if_ne (tgt := 125) hx hb dX2_deep_116 (by decide) (fun c_64 => absurd c_64 (by decide)) (fun c_64 => ?_)
                  refine lv_aload_n hx hb dX2_deep_119 rfl (lv_at hl 1 rfl) ?_
                  refine lv_iconst (v := 3) hx hb dX2_deep_120 (by decide) ?_
                  refine qw_i (w2 := []) (va_runV (As := [.int 3]) (rest := []) ⟨hx, hb, hml, hown, hts⟩ (c_X2_found l D kI kJ kL a S0 G H.size 3 (by unfold vp_in; decide)) (cwV 1 hts gX2_deep_X2_found rfl rfl rfl (by decide +kernel) ⟨Nat.le_of_ble_eq_true rfl, Nat.le_of_ble_eq_true rfl⟩) (q_wV (w2 := []) hK hN (by rw [List.append_nil]; exact hP) (by rw [List.append_nil]; exact hD) (va_recv hK hP (ci := 5) (q0 := 0) rfl rfl)) rfl rfl hl.1 rfl (lv_room (Nat.le_of_ble_eq_true rfl)) dX2_deep_121 ⟨Nat.le_of_ble_eq_true rfl, Nat.le_of_ble_eq_true rfl⟩) (by rw [List.append_nil]; exact hP) (by rw [List.append_nil]; exact hD) hS hA (fun r_66 u_67 H locs h_65 hP hD hS => ?_)
                  rw [List.append_nil] at hP hD
                  obtain ⟨rfl, rfl⟩ := h_65
                  have hP : va_P D vwCl (mW kI kJ a (xfd S0 3) G) H := hP
                  have hD : va_D A (mW kI kJ a (xfd S0 3) G) := hD
                  exact W.iret (v := (-30 - 3)) hx hb hr (fun t9 ht hW => ⟨⟨(-30 - 3), ((xfd S0 3), G), rfl, (by rw [← hS0]; exact ⟨by simp only [ms_deep, ms_deep2, mPl, cif_t h_1, cif_f c_3, cif_f c_27, cif_t c_53, cif_t h_54, cif_t h_56, cif_t c_58, cif_f h_59, sU_s], by simp only [ms_deep, ms_deep2, mPl, cif_t h_1, cif_f c_3, cif_f c_27, cif_t c_53, cif_t h_54, cif_t h_56, cif_t c_58, cif_f h_59, sU_s]⟩), by rw [ht]; exact hP, va_K.moved hW.alike hK, by rw [hAe]; exact hD⟩, hS.F ht⟩) hS.2.2 dX2_deep_124
              · refine lv_aload_n hx hb dX2_deep_93 rfl (lv_at hl 1 rfl) ?_
                refine lv_iconst (v := 2) hx hb dX2_deep_94 (by decide) ?_
                refine qw_i (w2 := []) (va_runV (As := [.int 2]) (rest := []) ⟨hx, hb, hml, hown, hts⟩ (c_X2_found l D kI kJ kL a S0 G H.size 2 (by unfold vp_in; decide)) (cwV 1 hts gX2_deep_X2_found rfl rfl rfl (by decide +kernel) ⟨Nat.le_of_ble_eq_true rfl, Nat.le_of_ble_eq_true rfl⟩) (q_wV (w2 := []) hK hN (by rw [List.append_nil]; exact hP) (by rw [List.append_nil]; exact hD) (va_recv hK hP (ci := 5) (q0 := 0) rfl rfl)) rfl rfl hl.1 rfl (lv_room (Nat.le_of_ble_eq_true rfl)) dX2_deep_95 ⟨Nat.le_of_ble_eq_true rfl, Nat.le_of_ble_eq_true rfl⟩) (by rw [List.append_nil]; exact hP) (by rw [List.append_nil]; exact hD) hS hA (fun r_69 u_70 H locs h_68 hP hD hS => ?_)
                rw [List.append_nil] at hP hD
                obtain ⟨rfl, rfl⟩ := h_68
                have hP : va_P D vwCl (mW kI kJ a (xfd S0 2) G) H := hP
                have hD : va_D A (mW kI kJ a (xfd S0 2) G) := hD
                exact W.iret (v := (-30 - 2)) hx hb hr (fun t9 ht hW => ⟨⟨(-30 - 2), ((xfd S0 2), G), rfl, (by rw [← hS0]; exact ⟨by simp only [ms_deep, ms_deep2, mPl, cif_t h_1, cif_f c_3, cif_f c_27, cif_t c_53, cif_t h_54, cif_t h_56, cif_f c_58, sU_s], by simp only [ms_deep, ms_deep2, mPl, cif_t h_1, cif_f c_3, cif_f c_27, cif_t c_53, cif_t h_54, cif_t h_56, cif_f c_58, sU_s]⟩), by rw [ht]; exact hP, va_K.moved hW.alike hK, by rw [hAe]; exact hD⟩, hS.F ht⟩) hS.2.2 dX2_deep_98
            · refine lv_if_ne (tgt := 75) hx hb dX2_deep_66 (by decide) (fun c_71 => absurd c_71 (by decide)) (fun c_71 => ?_)
              refine lv_aload_n hx hb dX2_deep_69 rfl (lv_at hl 0 rfl) ?_
              refine lv_iconst (v := 3) hx hb dX2_deep_70 (by decide) ?_
              refine qw_i (w2 := []) (va_runV (As := [.int 3]) (rest := []) ⟨hx, hb, hml, hown, hts⟩ (c_X2_found l D kI kJ kL a S0 G H.size 3 (by unfold vp_in; decide)) (cwV 1 hts gX2_deep_X2_found rfl rfl rfl (by decide +kernel) ⟨Nat.le_of_ble_eq_true rfl, Nat.le_of_ble_eq_true rfl⟩) (q_wV (w2 := []) hK hN (by rw [List.append_nil]; exact hP) (by rw [List.append_nil]; exact hD) (va_recv hK hP (ci := 5) (q0 := 0) rfl rfl)) rfl rfl hl.1 rfl (lv_room (Nat.le_of_ble_eq_true rfl)) dX2_deep_71 ⟨Nat.le_of_ble_eq_true rfl, Nat.le_of_ble_eq_true rfl⟩) (by rw [List.append_nil]; exact hP) (by rw [List.append_nil]; exact hD) hS hA (fun r_73 u_74 H locs h_72 hP hD hS => ?_)
              rw [List.append_nil] at hP hD
              obtain ⟨rfl, rfl⟩ := h_72
              have hP : va_P D vwCl (mW kI kJ a (xfd S0 3) G) H := hP
              have hD : va_D A (mW kI kJ a (xfd S0 3) G) := hD
              exact W.iret (v := (-30 - 3)) hx hb hr (fun t9 ht hW => ⟨⟨(-30 - 3), ((xfd S0 3), G), rfl, (by rw [← hS0]; exact ⟨by simp only [ms_deep, ms_deep2, mPl, cif_t h_1, cif_f c_3, cif_f c_27, cif_t c_53, cif_t h_54, cif_f h_56, sU_s], by simp only [ms_deep, ms_deep2, mPl, cif_t h_1, cif_f c_3, cif_f c_27, cif_t c_53, cif_t h_54, cif_f h_56, sU_s]⟩), by rw [ht]; exact hP, va_K.moved hW.alike hK, by rw [hAe]; exact hD⟩, hS.F ht⟩) hS.2.2 dX2_deep_74
          · refine lv_if_ne (tgt := 51) hx hb dX2_deep_42 (by decide) (fun c_75 => absurd c_75 (by decide)) (fun c_75 => ?_)
            refine lv_aload_n hx hb dX2_deep_45 rfl (lv_at hl 0 rfl) ?_
            refine lv_iconst (v := 1) hx hb dX2_deep_46 (by decide) ?_
            refine qw_i (w2 := []) (va_runV (As := [.int 1]) (rest := []) ⟨hx, hb, hml, hown, hts⟩ (c_X2_found l D kI kJ kL a S0 G H.size 1 (by unfold vp_in; decide)) (cwV 1 hts gX2_deep_X2_found rfl rfl rfl (by decide +kernel) ⟨Nat.le_of_ble_eq_true rfl, Nat.le_of_ble_eq_true rfl⟩) (q_wV (w2 := []) hK hN (by rw [List.append_nil]; exact hP) (by rw [List.append_nil]; exact hD) (va_recv hK hP (ci := 5) (q0 := 0) rfl rfl)) rfl rfl hl.1 rfl (lv_room (Nat.le_of_ble_eq_true rfl)) dX2_deep_47 ⟨Nat.le_of_ble_eq_true rfl, Nat.le_of_ble_eq_true rfl⟩) (by rw [List.append_nil]; exact hP) (by rw [List.append_nil]; exact hD) hS hA (fun r_77 u_78 H locs h_76 hP hD hS => ?_)
            rw [List.append_nil] at hP hD
            obtain ⟨rfl, rfl⟩ := h_76
            have hP : va_P D vwCl (mW kI kJ a (xfd S0 1) G) H := hP
            have hD : va_D A (mW kI kJ a (xfd S0 1) G) := hD
            exact W.iret (v := (-30 - 1)) hx hb hr (fun t9 ht hW => ⟨⟨(-30 - 1), ((xfd S0 1), G), rfl, (by rw [← hS0]; exact ⟨by simp only [ms_deep, ms_deep2, mPl, cif_t h_1, cif_f c_3, cif_f c_27, cif_t c_53, cif_f h_54, sU_s], by simp only [ms_deep, ms_deep2, mPl, cif_t h_1, cif_f c_3, cif_f c_27, cif_t c_53, cif_f h_54, sU_s]⟩), by rw [ht]; exact hP, va_K.moved hW.alike hK, by rw [hAe]; exact hD⟩, hS.F ht⟩) hS.2.2 dX2_deep_50
        · refine lv_bipush (v := -2) hx hb dX2_deep_33 (by decide) ?_
          exact W.iret (v := (-2)) hx hb hr (fun t9 ht hW => ⟨⟨(-2), (S0, G), rfl, (by rw [← hS0]; exact ⟨by simp only [ms_deep, ms_deep2, mPl, cif_t h_1, cif_f c_3, cif_f c_27, cif_f c_53, sU_s], by simp only [ms_deep, ms_deep2, mPl, cif_t h_1, cif_f c_3, cif_f c_27, cif_f c_53, sU_s]⟩), by rw [ht]; exact hP, va_K.moved hW.alike hK, by rw [hAe]; exact hD⟩, hS.F ht⟩) hS.2.2 dX2_deep_35
  · refine lv_if_ne (tgt := 15) hx hb dX2_deep_10 (by decide) (fun c_79 => absurd c_79 (by decide)) (fun c_79 => ?_)
    refine lv_iconst (v := -1) hx hb dX2_deep_13 (by decide) ?_
    exact W.iret (v := (-1)) hx hb hr (fun t9 ht hW => ⟨⟨(-1), (S0, G), rfl, (by rw [← hS0]; exact ⟨by simp only [ms_deep, ms_deep2, mPl, cif_f h_1, sU_s], by simp only [ms_deep, ms_deep2, mPl, cif_f h_1, sU_s]⟩), by rw [ht]; exact hP, va_K.moved hW.alike hK, by rw [hAe]; exact hD⟩, hS.F ht⟩) hS.2.2 dX2_deep_14

set_option maxHeartbeats 4000000 in
set_option maxRecDepth 100000 in
theorem c_X2_fill (l : Launch) (D : va_G) (kI kJ kL : ClassId) (a : Nat → Nat) (S : Nat → Nat → Int32) (G : Nat → Int64) (sz : Nat) (b : Int32) (t : Int32) (n : Nat) (hn6 : S 6 0 = nI n) (hn : n ≤ 110) (hpv : ∀ i, i < 1100 → S 4 i < 0 ∨ vp_in (S 4 i) 110) (hen : ∀ t : Int32, (t < 0 ∨ vp_in t 110) → men S 110 t) : Met l yX2_fill wsX2_fill ({ frames := 3, cells := 0, slots := 0, locals := 67 }) (q_wP D (xTY kI kJ kL) (mW kI kJ a S G) sz [.ref (a 0), .int b, .int t]) (va_Qi (fun r (u : (Nat → Nat → Int32) × (Nat → Int64)) => r = (ms_fill (sU S 16 0 0) b t).1 ∧ u = ((ms_fill (sU S 16 0 0) b t).2, G)) (q_wB D (xTY kI kJ kL) (mW kI kJ a S G) sz (fun u : (Nat → Nat → Int32) × (Nat → Int64) => mW kI kJ a u.1 u.2)) (va_A (mW kI kJ a S G) sz)) 0 0 (va_A (mW kI kJ a S G) sz) := by
  refine Met.ofW (cc := cX2_fill) (maxL := 4) (ret := (some .int)) (by decide) rfl ?_
  intro p e s m args below meth c s₁ Bd hml hv
  obtain ⟨rfl, hsz, hP, hK, hD0, hN⟩ := hv
  have hx := Bd.exec
  have hb := Bd.bytes
  have hr := Bd.returns
  have hts := atoms_spec (ws := wsX2_fill) Bd.pre
  have hown : s.vm.findClass RX2 = some m.cls := findClass_of_methodNamed Bd.named
  have hlocks := Bd.notSynchronized
  subst hsz
  have hD := hD0.self (sz := s.heap.size)
  generalize hAe : va_A (mW kI kJ a S G) s.heap.size = A at hD ⊢
  have hA : ∀ q : Nat, s.heap.size ≤ q → A q := fun q h => by rw [← hAe]; exact Or.inr h
  have hS : va_S A s.heap s.heap [] := va_S.rf
  have hl := lv_entry ([.ref (a 0), .int b, .int t]) (n := 4) (Nat.le_of_ble_eq_true rfl)
  rw [lg_entry_eq]
  generalize (lg_sl ([.ref (a 0), .int b, .int t]) ++ List.replicate (4 - (lg_sl ([.ref (a 0), .int b, .int t])).length) Slot.unset).toArray = ls at hl ⊢
  have hl : lv_has ls 4 [(0, .ref (a 0)), (1, .int b), (2, .int t)] := hl
  have hinX2 : ∀ w ∈ u_ws RX2 TX2 17, w ∈ wsX2_fill := by decide +kernel
  refine lv_aload_n hx hb dX2_fill_0 rfl (lv_at hl 0 rfl) ?_
  refine lv_iconst (v := 0) hx hb dX2_fill_1 (by decide) ?_
  refine va_put (D := D) (ci := 5) (v := .int 0) (ty := .int) (C := RX2) (T := TX2) (N := 17) hx hb hts hinX2 tyX2 tyX2_ok nmX2 hown hK hP hD hS 0 rfl rfl 0 (by decide) (hts (.fieldLink RX2 59 "LoanCasesModel" "fault" "I") (by decide +kernel)) (fun _ h9 => h9) rfl (by decide +kernel) rfl rfl (Nat.le_of_ble_eq_true rfl) dX2_fill_2 (fun H locs hP hD hS => ?_)
  have hP : va_P D vwCl (mW kI kJ a (sU S 16 0 0) G) H := hP
  have hD : va_D A (mW kI kJ a (sU S 16 0 0) G) := hD
  obtain ⟨S0, hS0⟩ : ∃ S0, S0 = sU S 16 0 0 := ⟨_, rfl⟩
  rw [← hS0] at hP hD
  have hn6 : S0 6 0 = nI n := by rw [hS0]; exact hn6
  have hpv : ∀ i, i < 1100 → S0 4 i < 0 ∨ vp_in (S0 4 i) 110 := by rw [hS0]; exact hpv
  have hen : ∀ t : Int32, (t < 0 ∨ vp_in t 110) → men S0 110 t := by rw [hS0]; exact hen
  refine lv_aload_n hx hb dX2_fill_5 rfl (lv_at hl 0 rfl) ?_
  refine lv_iload_n hx hb dX2_fill_6 rfl (lv_at hl 1 rfl) ?_
  refine vp_callSi (W.runV (As := [.int b]) (rest := []) ⟨hx, hb, hml, hown, hts⟩ (c_X2_isCase l D kI kJ kL a S0 G b n hn6 hn) (cwV 1 hts gX2_fill_X2_isCase rfl rfl rfl (by decide +kernel) ⟨Nat.le_of_ble_eq_true rfl, Nat.le_of_ble_eq_true rfl⟩) (q_rV (w2 := []) hK hN (by rw [List.append_nil]; exact hP) (va_recv hK hP (ci := 5) (q0 := 0) rfl rfl)) rfl rfl hl.1 rfl (lv_room (Nat.le_of_ble_eq_true rfl)) dX2_fill_7 ⟨Nat.le_of_ble_eq_true rfl, Nat.le_of_ble_eq_true rfl⟩) (fun r_h_1 h_1 => ?_)
  rcases h_1 with ⟨rfl, h_1⟩ | ⟨rfl, h_1⟩
  · refine lv_if_eq (tgt := 27) hx hb dX2_fill_10 (by decide) (fun c_2 => absurd c_2 (by decide)) (fun c_2 => ?_)
    refine lv_iload_n hx hb dX2_fill_13 rfl (lv_at hl 2 rfl) ?_
    refine lv_bipush (v := -5) hx hb dX2_fill_14 (by decide) ?_
    refine lv_icmp_eq (tgt := 29) hx hb dX2_fill_16 (by decide) (fun c_3 => ?_) (fun c_3 => ?_)
    · refine lv_iload_n hx hb dX2_fill_29 rfl (lv_at hl 2 rfl) ?_
      refine lv_iload_n hx hb dX2_fill_30 rfl (lv_at hl 1 rfl) ?_
      refine lv_icmp_eq (tgt := 49) hx hb dX2_fill_31 (by decide) (fun c_4 => ?_) (fun c_4 => ?_)
      · refine lv_bipush (v := -3) hx hb dX2_fill_49 (by decide) ?_
        exact W.iret (v := (-3)) hx hb hr (fun t9 ht hW => ⟨⟨(-3), (S0, G), rfl, (by rw [← hS0]; exact ⟨by simp only [ms_fill, ms_fill2, mnx, cif_t h_1, cif_t c_3, cif_t c_4, sU_s], by simp only [ms_fill, ms_fill2, mnx, cif_t h_1, cif_t c_3, cif_t c_4, sU_s]⟩), by rw [ht]; exact hP, va_K.moved hW.alike hK, by rw [hAe]; exact hD⟩, hS.F ht⟩) hS.2.2 dX2_fill_51
      · refine lv_iload_n hx hb dX2_fill_34 rfl (lv_at hl 2 rfl) ?_
        refine lv_bipush (v := -5) hx hb dX2_fill_35 (by decide) ?_
        refine lv_icmp_eq (tgt := 52) hx hb dX2_fill_37 (by decide) (fun c_5 => ?_) (fun c_5 => absurd c_3 c_5)
        refine lv_aload_n hx hb dX2_fill_52 rfl (lv_at hl 0 rfl) ?_
        refine lv_iload_n hx hb dX2_fill_53 rfl (lv_at hl 1 rfl) ?_
        refine vp_callSi (W.runV (As := [.int b]) (rest := []) ⟨hx, hb, hml, hown, hts⟩ (c_X2_heldBy l D kI kJ kL a S0 G b (mT_in hn6 hn h_1.1)) (cwV 1 hts gX2_fill_X2_heldBy rfl rfl rfl (by decide +kernel) ⟨Nat.le_of_ble_eq_true rfl, Nat.le_of_ble_eq_true rfl⟩) (q_rV (w2 := []) hK hN (by rw [List.append_nil]; exact hP) (va_recv hK hP (ci := 5) (q0 := 0) rfl rfl)) rfl rfl hl.1 rfl (lv_room (Nat.le_of_ble_eq_true rfl)) dX2_fill_54 ⟨Nat.le_of_ble_eq_true rfl, Nat.le_of_ble_eq_true rfl⟩) (fun r_7 h_6 => ?_)
        subst h_6
        refine lv_istore_n (lv' := [(3, .int (mnx S0 b)), (0, .ref (a 0)), (1, .int b), (2, .int t)]) hx hb dX2_fill_57 rfl hl (by decide) rfl (fun ls hl => ?_)
        refine lv_aload_n hx hb dX2_fill_58 rfl (lv_at hl 1 rfl) ?_
        refine va_get (D := D) (ci := 5) (v := .ref (a 5)) (C := RX2) (T := TX2) (N := 17) hx hb hts hinX2 hown hK hP 0 rfl rfl 6 (by decide) (hts (.fieldLink RX2 23 "LoanCasesModel" "places" "[I") (by decide +kernel)) (fun _ h9 => h9) rfl dX2_fill_59 ?_
        refine lv_bipush (v := 10) hx hb dX2_fill_62 (by decide) ?_
        refine lv_iload_n hx hb dX2_fill_64 rfl (lv_at hl 2 rfl) ?_
        refine lv_imul hx hb dX2_fill_65 ?_
        refine lv_iload_n hx hb dX2_fill_66 rfl (lv_at hl 3 rfl) ?_
        refine lv_bipush (v := -5) hx hb dX2_fill_67 (by decide) ?_
        refine lv_icmp_ne (tgt := 76) hx hb dX2_fill_69 (by decide) (fun c_8 => absurd c_3 c_8) (fun c_8 => ?_)
        refine lv_iconst (v := -1) hx hb dX2_fill_72 (by decide) ?_
        refine lv_goto (tgt := 77) hx hb dX2_fill_73 (by decide) ?_
        refine va_iast hx hb hK hP hD hS 5 0 rfl rfl (m10_in (mT_in hn6 hn h_1.1)) dX2_fill_77 (fun H locs hP hD hS => ?_)
        have hP : va_P D vwCl (mW kI kJ a (sU S0 4 ((10 * b).toNatClampNeg) (-1)) G) H := hP
        have hD : va_D A (mW kI kJ a (sU S0 4 ((10 * b).toNatClampNeg) (-1)) G) := hD
        refine lv_iload_n hx hb dX2_fill_78 rfl (lv_at hl 0 rfl) ?_
        refine vp_callSi (W.runS (As := [.int (mnx S0 b)]) (rest := []) ⟨hx, hb, hml, hown, hts⟩ (c_X2_told l D kI kJ kL (mnx S0 b)) (va_cwS 1 hts gX2_fill_X2_told rfl rfl rfl (by decide +kernel) ⟨Nat.le_of_ble_eq_true rfl, Nat.le_of_ble_eq_true rfl⟩) (q_rS0 hK hN) rfl rfl hl.1 rfl (lv_room (Nat.le_of_ble_eq_true rfl)) dX2_fill_79 ⟨Nat.le_of_ble_eq_true rfl, Nat.le_of_ble_eq_true rfl⟩) (fun r_10 h_9 => ?_)
        subst h_9
        exact W.iret (v := (mto (mnx S0 b))) hx hb hr (fun t9 ht hW => ⟨⟨(mto (mnx S0 b)), ((sU S0 4 ((10 * b).toNatClampNeg) (-1)), G), rfl, (by rw [← hS0]; exact ⟨by simp only [ms_fill, ms_fill2, mnx, cif_t h_1, cif_t c_3, cif_f c_4, sU_s], by simp only [ms_fill, ms_fill2, mnx, cif_t h_1, cif_t c_3, cif_f c_4, sU_s]⟩), by rw [ht]; exact hP, va_K.moved hW.alike hK, by rw [hAe]; exact hD⟩, hS.F ht⟩) hS.2.2 dX2_fill_82
    · refine lv_aload_n hx hb dX2_fill_19 rfl (lv_at hl 0 rfl) ?_
      refine lv_iload_n hx hb dX2_fill_20 rfl (lv_at hl 2 rfl) ?_
      refine vp_callSi (W.runV (As := [.int t]) (rest := []) ⟨hx, hb, hml, hown, hts⟩ (c_X2_isThing l D kI kJ kL a S0 G t) (cwV 1 hts gX2_fill_X2_isThing rfl rfl rfl (by decide +kernel) ⟨Nat.le_of_ble_eq_true rfl, Nat.le_of_ble_eq_true rfl⟩) (q_rV (w2 := []) hK hN (by rw [List.append_nil]; exact hP) (va_recv hK hP (ci := 5) (q0 := 0) rfl rfl)) rfl rfl hl.1 rfl (lv_room (Nat.le_of_ble_eq_true rfl)) dX2_fill_21 ⟨Nat.le_of_ble_eq_true rfl, Nat.le_of_ble_eq_true rfl⟩) (fun r_h_11 h_11 => ?_)
      rcases h_11 with ⟨rfl, h_11⟩ | ⟨rfl, h_11⟩
      · refine lv_if_ne (tgt := 29) hx hb dX2_fill_24 (by decide) (fun c_12 => ?_) (fun c_12 => absurd c_12 (by decide))
        refine lv_iload_n hx hb dX2_fill_29 rfl (lv_at hl 2 rfl) ?_
        refine lv_iload_n hx hb dX2_fill_30 rfl (lv_at hl 1 rfl) ?_
        refine lv_icmp_eq (tgt := 49) hx hb dX2_fill_31 (by decide) (fun c_13 => ?_) (fun c_13 => ?_)
        · refine lv_bipush (v := -3) hx hb dX2_fill_49 (by decide) ?_
          exact W.iret (v := (-3)) hx hb hr (fun t9 ht hW => ⟨⟨(-3), (S0, G), rfl, (by rw [← hS0]; exact ⟨by simp only [ms_fill, ms_fill2, mnx, cif_t h_1, cif_f c_3, cif_t h_11, cif_t c_13, sU_s], by simp only [ms_fill, ms_fill2, mnx, cif_t h_1, cif_f c_3, cif_t h_11, cif_t c_13, sU_s]⟩), by rw [ht]; exact hP, va_K.moved hW.alike hK, by rw [hAe]; exact hD⟩, hS.F ht⟩) hS.2.2 dX2_fill_51
        · refine lv_iload_n hx hb dX2_fill_34 rfl (lv_at hl 2 rfl) ?_
          refine lv_bipush (v := -5) hx hb dX2_fill_35 (by decide) ?_
          refine lv_icmp_eq (tgt := 52) hx hb dX2_fill_37 (by decide) (fun c_14 => absurd c_14 c_3) (fun c_14 => ?_)
          refine lv_aload_n hx hb dX2_fill_40 rfl (lv_at hl 0 rfl) ?_
          refine lv_iload_n hx hb dX2_fill_41 rfl (lv_at hl 1 rfl) ?_
          refine lv_iload_n hx hb dX2_fill_42 rfl (lv_at hl 2 rfl) ?_
          refine vp_callSi (W.runV (As := [.int b, .int t]) (rest := []) ⟨hx, hb, hml, hown, hts⟩ (c_X2_isWithin l D kI kJ kL a S0 G b t (Or.inr (mT_in hn6 hn h_11)) hpv (hen _ (Or.inr (mT_in hn6 hn h_11)))) (cwV 2 hts gX2_fill_X2_isWithin rfl rfl rfl (by decide +kernel) ⟨Nat.le_of_ble_eq_true rfl, Nat.le_of_ble_eq_true rfl⟩) (q_rV (w2 := []) hK hN (by rw [List.append_nil]; exact hP) (va_recv hK hP (ci := 5) (q0 := 0) rfl rfl)) rfl rfl hl.1 rfl (lv_room (Nat.le_of_ble_eq_true rfl)) dX2_fill_43 ⟨Nat.le_of_ble_eq_true rfl, Nat.le_of_ble_eq_true rfl⟩) (fun r_h_15 h_15 => ?_)
          rcases h_15 with ⟨rfl, h_15⟩ | ⟨rfl, h_15⟩
          · refine lv_if_eq (tgt := 52) hx hb dX2_fill_46 (by decide) (fun c_16 => absurd c_16 (by decide)) (fun c_16 => ?_)
            refine lv_bipush (v := -3) hx hb dX2_fill_49 (by decide) ?_
            exact W.iret (v := (-3)) hx hb hr (fun t9 ht hW => ⟨⟨(-3), (S0, G), rfl, (by rw [← hS0]; exact ⟨by simp only [ms_fill, ms_fill2, mnx, cif_t h_1, cif_f c_3, cif_t h_11, cif_f c_13, cif_t h_15, sU_s], by simp only [ms_fill, ms_fill2, mnx, cif_t h_1, cif_f c_3, cif_t h_11, cif_f c_13, cif_t h_15, sU_s]⟩), by rw [ht]; exact hP, va_K.moved hW.alike hK, by rw [hAe]; exact hD⟩, hS.F ht⟩) hS.2.2 dX2_fill_51
          · refine lv_if_eq (tgt := 52) hx hb dX2_fill_46 (by decide) (fun c_17 => ?_) (fun c_17 => absurd c_17 (by decide))
            refine lv_aload_n hx hb dX2_fill_52 rfl (lv_at hl 0 rfl) ?_
            refine lv_iload_n hx hb dX2_fill_53 rfl (lv_at hl 1 rfl) ?_
            refine vp_callSi (W.runV (As := [.int b]) (rest := []) ⟨hx, hb, hml, hown, hts⟩ (c_X2_heldBy l D kI kJ kL a S0 G b (mT_in hn6 hn h_1.1)) (cwV 1 hts gX2_fill_X2_heldBy rfl rfl rfl (by decide +kernel) ⟨Nat.le_of_ble_eq_true rfl, Nat.le_of_ble_eq_true rfl⟩) (q_rV (w2 := []) hK hN (by rw [List.append_nil]; exact hP) (va_recv hK hP (ci := 5) (q0 := 0) rfl rfl)) rfl rfl hl.1 rfl (lv_room (Nat.le_of_ble_eq_true rfl)) dX2_fill_54 ⟨Nat.le_of_ble_eq_true rfl, Nat.le_of_ble_eq_true rfl⟩) (fun r_19 h_18 => ?_)
            subst h_18
            refine lv_istore_n (lv' := [(3, .int (mnx S0 b)), (0, .ref (a 0)), (1, .int b), (2, .int t)]) hx hb dX2_fill_57 rfl hl (by decide) rfl (fun ls hl => ?_)
            refine lv_aload_n hx hb dX2_fill_58 rfl (lv_at hl 1 rfl) ?_
            refine va_get (D := D) (ci := 5) (v := .ref (a 5)) (C := RX2) (T := TX2) (N := 17) hx hb hts hinX2 hown hK hP 0 rfl rfl 6 (by decide) (hts (.fieldLink RX2 23 "LoanCasesModel" "places" "[I") (by decide +kernel)) (fun _ h9 => h9) rfl dX2_fill_59 ?_
            refine lv_bipush (v := 10) hx hb dX2_fill_62 (by decide) ?_
            refine lv_iload_n hx hb dX2_fill_64 rfl (lv_at hl 2 rfl) ?_
            refine lv_imul hx hb dX2_fill_65 ?_
            refine lv_iload_n hx hb dX2_fill_66 rfl (lv_at hl 3 rfl) ?_
            refine lv_bipush (v := -5) hx hb dX2_fill_67 (by decide) ?_
            refine lv_icmp_ne (tgt := 76) hx hb dX2_fill_69 (by decide) (fun c_20 => ?_) (fun c_20 => absurd c_20 c_3)
            refine lv_iload_n hx hb dX2_fill_76 rfl (lv_at hl 3 rfl) ?_
            refine va_iast hx hb hK hP hD hS 5 0 rfl rfl (m10_in (mT_in hn6 hn h_1.1)) dX2_fill_77 (fun H locs hP hD hS => ?_)
            have hP : va_P D vwCl (mW kI kJ a (sU S0 4 ((10 * b).toNatClampNeg) t) G) H := hP
            have hD : va_D A (mW kI kJ a (sU S0 4 ((10 * b).toNatClampNeg) t) G) := hD
            refine lv_iload_n hx hb dX2_fill_78 rfl (lv_at hl 0 rfl) ?_
            refine vp_callSi (W.runS (As := [.int (mnx S0 b)]) (rest := []) ⟨hx, hb, hml, hown, hts⟩ (c_X2_told l D kI kJ kL (mnx S0 b)) (va_cwS 1 hts gX2_fill_X2_told rfl rfl rfl (by decide +kernel) ⟨Nat.le_of_ble_eq_true rfl, Nat.le_of_ble_eq_true rfl⟩) (q_rS0 hK hN) rfl rfl hl.1 rfl (lv_room (Nat.le_of_ble_eq_true rfl)) dX2_fill_79 ⟨Nat.le_of_ble_eq_true rfl, Nat.le_of_ble_eq_true rfl⟩) (fun r_22 h_21 => ?_)
            subst h_21
            exact W.iret (v := (mto (mnx S0 b))) hx hb hr (fun t9 ht hW => ⟨⟨(mto (mnx S0 b)), ((sU S0 4 ((10 * b).toNatClampNeg) t), G), rfl, (by rw [← hS0]; exact ⟨by simp only [ms_fill, ms_fill2, mnx, cif_t h_1, cif_f c_3, cif_t h_11, cif_f c_13, cif_f h_15, sU_s], by simp only [ms_fill, ms_fill2, mnx, cif_t h_1, cif_f c_3, cif_t h_11, cif_f c_13, cif_f h_15, sU_s]⟩), by rw [ht]; exact hP, va_K.moved hW.alike hK, by rw [hAe]; exact hD⟩, hS.F ht⟩) hS.2.2 dX2_fill_82
      · refine lv_if_ne (tgt := 29) hx hb dX2_fill_24 (by decide) (fun c_23 => absurd c_23 (by decide)) (fun c_23 => ?_)
        refine lv_iconst (v := -1) hx hb dX2_fill_27 (by decide) ?_
        exact W.iret (v := (-1)) hx hb hr (fun t9 ht hW => ⟨⟨(-1), (S0, G), rfl, (by rw [← hS0]; exact ⟨by simp only [ms_fill, ms_fill2, mnx, cif_t h_1, cif_f c_3, cif_f h_11, sU_s], by simp only [ms_fill, ms_fill2, mnx, cif_t h_1, cif_f c_3, cif_f h_11, sU_s]⟩), by rw [ht]; exact hP, va_K.moved hW.alike hK, by rw [hAe]; exact hD⟩, hS.F ht⟩) hS.2.2 dX2_fill_28
  · refine lv_if_eq (tgt := 27) hx hb dX2_fill_10 (by decide) (fun c_24 => ?_) (fun c_24 => absurd c_24 (by decide))
    refine lv_iconst (v := -1) hx hb dX2_fill_27 (by decide) ?_
    exact W.iret (v := (-1)) hx hb hr (fun t9 ht hW => ⟨⟨(-1), (S0, G), rfl, (by rw [← hS0]; exact ⟨by simp only [ms_fill, ms_fill2, mnx, cif_f h_1, sU_s], by simp only [ms_fill, ms_fill2, mnx, cif_f h_1, sU_s]⟩), by rw [ht]; exact hP, va_K.moved hW.alike hK, by rw [hAe]; exact hD⟩, hS.F ht⟩) hS.2.2 dX2_fill_28

set_option maxHeartbeats 4000000 in
set_option maxRecDepth 100000 in
theorem c_X2_loan (l : Launch) (D : va_G) (kI kJ kL : ClassId) (a : Nat → Nat) (S : Nat → Nat → Int32) (G : Nat → Int64) (sz : Nat) (B : Nat) (hl7 : S 7 0 = nI B) (hB : B ≤ 8) : Met l yX2_loan wsX2_loan ({ frames := 0, cells := 0, slots := 0, locals := 0 }) (q_wP D (xTY kI kJ kL) (mW kI kJ a S G) sz [.ref (a 0)]) (va_Qi (fun r (u : (Nat → Nat → Int32) × (Nat → Int64)) => r = (ms_loan (sU S 16 0 0) ).1 ∧ u = ((ms_loan (sU S 16 0 0) ).2, G)) (q_wB D (xTY kI kJ kL) (mW kI kJ a S G) sz (fun u : (Nat → Nat → Int32) × (Nat → Int64) => mW kI kJ a u.1 u.2)) (va_A (mW kI kJ a S G) sz)) 0 0 (va_A (mW kI kJ a S G) sz) := by
  refine Met.ofW (cc := cX2_loan) (maxL := 1) (ret := (some .int)) (by decide) rfl ?_
  intro p e s m args below meth c s₁ Bd hml hv
  obtain ⟨rfl, hsz, hP, hK, hD0, hN⟩ := hv
  have hx := Bd.exec
  have hb := Bd.bytes
  have hr := Bd.returns
  have hts := atoms_spec (ws := wsX2_loan) Bd.pre
  have hown : s.vm.findClass RX2 = some m.cls := findClass_of_methodNamed Bd.named
  have hlocks := Bd.notSynchronized
  subst hsz
  have hD := hD0.self (sz := s.heap.size)
  generalize hAe : va_A (mW kI kJ a S G) s.heap.size = A at hD ⊢
  have hA : ∀ q : Nat, s.heap.size ≤ q → A q := fun q h => by rw [← hAe]; exact Or.inr h
  have hS : va_S A s.heap s.heap [] := va_S.rf
  have hl := lv_entry ([.ref (a 0)]) (n := 1) (Nat.le_of_ble_eq_true rfl)
  rw [lg_entry_eq]
  generalize (lg_sl ([.ref (a 0)]) ++ List.replicate (1 - (lg_sl ([.ref (a 0)])).length) Slot.unset).toArray = ls at hl ⊢
  have hl : lv_has ls 1 [(0, .ref (a 0))] := hl
  have hinX2 : ∀ w ∈ u_ws RX2 TX2 17, w ∈ wsX2_loan := by decide +kernel
  refine lv_aload_n hx hb dX2_loan_0 rfl (lv_at hl 0 rfl) ?_
  refine lv_iconst (v := 0) hx hb dX2_loan_1 (by decide) ?_
  refine va_put (D := D) (ci := 5) (v := .int 0) (ty := .int) (C := RX2) (T := TX2) (N := 17) hx hb hts hinX2 tyX2 tyX2_ok nmX2 hown hK hP hD hS 0 rfl rfl 0 (by decide) (hts (.fieldLink RX2 59 "LoanCasesModel" "fault" "I") (by decide +kernel)) (fun _ h9 => h9) rfl (by decide +kernel) rfl rfl (Nat.le_of_ble_eq_true rfl) dX2_loan_2 (fun H locs hP hD hS => ?_)
  have hP : va_P D vwCl (mW kI kJ a (sU S 16 0 0) G) H := hP
  have hD : va_D A (mW kI kJ a (sU S 16 0 0) G) := hD
  obtain ⟨S0, hS0⟩ : ∃ S0, S0 = sU S 16 0 0 := ⟨_, rfl⟩
  rw [← hS0] at hP hD
  have hl7 : S0 7 0 = nI B := by rw [hS0]; exact hl7
  refine lv_aload_n hx hb dX2_loan_5 rfl (lv_at hl 0 rfl) ?_
  refine va_get (D := D) (ci := 5) (v := .int (S0 7 0)) (C := RX2) (T := TX2) (N := 17) hx hb hts hinX2 hown hK hP 0 rfl rfl 9 (by decide) (hts (.fieldLink RX2 74 "LoanCasesModel" "loans" "I") (by decide +kernel)) (fun _ h9 => h9) rfl dX2_loan_6 ?_
  refine lv_bipush (v := 8) hx hb dX2_loan_9 (by decide) ?_
  refine lv_icmp_ne (tgt := 17) hx hb dX2_loan_11 (by decide) (fun c_1 => ?_) (fun c_1 => ?_)
  · refine lv_aload_n hx hb dX2_loan_17 rfl (lv_at hl 0 rfl) ?_
    refine va_get (D := D) (ci := 5) (v := .ref (a 8)) (C := RX2) (T := TX2) (N := 17) hx hb hts hinX2 hown hK hP 0 rfl rfl 10 (by decide) (hts (.fieldLink RX2 38 "LoanCasesModel" "states" "[I") (by decide +kernel)) (fun _ h9 => h9) rfl dX2_loan_18 ?_
    refine lv_aload_n hx hb dX2_loan_21 rfl (lv_at hl 0 rfl) ?_
    refine va_get (D := D) (ci := 5) (v := .int (S0 7 0)) (C := RX2) (T := TX2) (N := 17) hx hb hts hinX2 hown hK hP 0 rfl rfl 9 (by decide) (hts (.fieldLink RX2 74 "LoanCasesModel" "loans" "I") (by decide +kernel)) (fun _ h9 => h9) rfl dX2_loan_22 ?_
    refine lv_iconst (v := 0) hx hb dX2_loan_25 (by decide) ?_
    refine va_iast hx hb hK hP hD hS 8 0 rfl rfl (by rw [hl7]; exact vp_in_nI (by rcases Nat.lt_or_ge B 8 with q | q; exact q; exact absurd (show S0 7 0 = 8 by rw [hl7, show B = 8 by omega]; rfl) c_1) (by omega)) dX2_loan_26 (fun H locs hP hD hS => ?_)
    have hP : va_P D vwCl (mW kI kJ a (sU S0 8 ((S0 7 0).toNatClampNeg) 0) G) H := hP
    have hD : va_D A (mW kI kJ a (sU S0 8 ((S0 7 0).toNatClampNeg) 0) G) := hD
    refine lv_aload_n hx hb dX2_loan_27 rfl (lv_at hl 0 rfl) ?_
    refine va_get (D := D) (ci := 5) (v := .ref (a 9)) (C := RX2) (T := TX2) (N := 17) hx hb hts hinX2 hown hK hP 0 rfl rfl 11 (by decide) (hts (.fieldLink RX2 41 "LoanCasesModel" "wants" "[I") (by decide +kernel)) (fun _ h9 => h9) rfl dX2_loan_28 ?_
    refine lv_aload_n hx hb dX2_loan_31 rfl (lv_at hl 0 rfl) ?_
    refine va_get (D := D) (ci := 5) (v := .int (S0 7 0)) (C := RX2) (T := TX2) (N := 17) hx hb hts hinX2 hown hK hP 0 rfl rfl 9 (by decide) (hts (.fieldLink RX2 74 "LoanCasesModel" "loans" "I") (by decide +kernel)) (fun _ h9 => h9) rfl dX2_loan_32 ?_
    refine lv_iconst (v := 0) hx hb dX2_loan_35 (by decide) ?_
    refine va_iast hx hb hK hP hD hS 9 0 rfl rfl (by rw [hl7]; exact vp_in_nI (by rcases Nat.lt_or_ge B 8 with q | q; exact q; exact absurd (show S0 7 0 = 8 by rw [hl7, show B = 8 by omega]; rfl) c_1) (by omega)) dX2_loan_36 (fun H locs hP hD hS => ?_)
    have hP : va_P D vwCl (mW kI kJ a (sU (sU S0 8 ((S0 7 0).toNatClampNeg) 0) 9 ((S0 7 0).toNatClampNeg) 0) G) H := hP
    have hD : va_D A (mW kI kJ a (sU (sU S0 8 ((S0 7 0).toNatClampNeg) 0) 9 ((S0 7 0).toNatClampNeg) 0) G) := hD
    refine lv_aload_n hx hb dX2_loan_37 rfl (lv_at hl 0 rfl) ?_
    refine va_get (D := D) (ci := 5) (v := .ref (a 10)) (C := RX2) (T := TX2) (N := 17) hx hb hts hinX2 hown hK hP 0 rfl rfl 12 (by decide) (hts (.fieldLink RX2 44 "LoanCasesModel" "stuckAt" "[I") (by decide +kernel)) (fun _ h9 => h9) rfl dX2_loan_38 ?_
    refine lv_aload_n hx hb dX2_loan_41 rfl (lv_at hl 0 rfl) ?_
    refine va_get (D := D) (ci := 5) (v := .int (S0 7 0)) (C := RX2) (T := TX2) (N := 17) hx hb hts hinX2 hown hK hP 0 rfl rfl 9 (by decide) (hts (.fieldLink RX2 74 "LoanCasesModel" "loans" "I") (by decide +kernel)) (fun _ h9 => h9) rfl dX2_loan_42 ?_
    refine lv_bipush (v := -5) hx hb dX2_loan_45 (by decide) ?_
    refine va_iast hx hb hK hP hD hS 10 0 rfl rfl (by rw [hl7]; exact vp_in_nI (by rcases Nat.lt_or_ge B 8 with q | q; exact q; exact absurd (show S0 7 0 = 8 by rw [hl7, show B = 8 by omega]; rfl) c_1) (by omega)) dX2_loan_47 (fun H locs hP hD hS => ?_)
    have hP : va_P D vwCl (mW kI kJ a (sU (sU (sU S0 8 ((S0 7 0).toNatClampNeg) 0) 9 ((S0 7 0).toNatClampNeg) 0) 10 ((S0 7 0).toNatClampNeg) (-5)) G) H := hP
    have hD : va_D A (mW kI kJ a (sU (sU (sU S0 8 ((S0 7 0).toNatClampNeg) 0) 9 ((S0 7 0).toNatClampNeg) 0) 10 ((S0 7 0).toNatClampNeg) (-5)) G) := hD
    refine lv_aload_n hx hb dX2_loan_48 rfl (lv_at hl 0 rfl) ?_
    refine lv_dup hx hb dX2_loan_49 rfl ?_
    refine va_get (D := D) (ci := 5) (v := .int (S0 7 0)) (C := RX2) (T := TX2) (N := 17) hx hb hts hinX2 hown hK hP 0 rfl rfl 9 (by decide) (hts (.fieldLink RX2 74 "LoanCasesModel" "loans" "I") (by decide +kernel)) (fun _ h9 => h9) rfl dX2_loan_50 ?_
    refine lv_iconst (v := 1) hx hb dX2_loan_53 (by decide) ?_
    refine lv_iadd hx hb dX2_loan_54 ?_
    refine va_put (D := D) (ci := 5) (v := .int ((S0 7 0) + 1)) (ty := .int) (C := RX2) (T := TX2) (N := 17) hx hb hts hinX2 tyX2 tyX2_ok nmX2 hown hK hP hD hS 0 rfl rfl 9 (by decide) (hts (.fieldLink RX2 74 "LoanCasesModel" "loans" "I") (by decide +kernel)) (fun _ h9 => h9) rfl (by decide +kernel) rfl rfl (Nat.le_of_ble_eq_true rfl) dX2_loan_55 (fun H locs hP hD hS => ?_)
    have hP : va_P D vwCl (mW kI kJ a (sU (sU (sU (sU S0 8 ((S0 7 0).toNatClampNeg) 0) 9 ((S0 7 0).toNatClampNeg) 0) 10 ((S0 7 0).toNatClampNeg) (-5)) 7 0 ((S0 7 0) + 1)) G) H := hP
    have hD : va_D A (mW kI kJ a (sU (sU (sU (sU S0 8 ((S0 7 0).toNatClampNeg) 0) 9 ((S0 7 0).toNatClampNeg) 0) 10 ((S0 7 0).toNatClampNeg) (-5)) 7 0 ((S0 7 0) + 1)) G) := hD
    refine lv_aload_n hx hb dX2_loan_58 rfl (lv_at hl 0 rfl) ?_
    refine va_get (D := D) (ci := 5) (v := .int ((sU (sU (sU (sU S0 8 ((S0 7 0).toNatClampNeg) 0) 9 ((S0 7 0).toNatClampNeg) 0) 10 ((S0 7 0).toNatClampNeg) (-5)) 7 0 ((S0 7 0) + 1)) 7 0)) (C := RX2) (T := TX2) (N := 17) hx hb hts hinX2 hown hK hP 0 rfl rfl 9 (by decide) (hts (.fieldLink RX2 74 "LoanCasesModel" "loans" "I") (by decide +kernel)) (fun _ h9 => h9) rfl dX2_loan_59 ?_
    refine lv_iconst (v := 1) hx hb dX2_loan_62 (by decide) ?_
    refine lv_isub hx hb dX2_loan_63 ?_
    exact W.iret (v := (((sU (sU (sU (sU S0 8 ((S0 7 0).toNatClampNeg) 0) 9 ((S0 7 0).toNatClampNeg) 0) 10 ((S0 7 0).toNatClampNeg) (-5)) 7 0 ((S0 7 0) + 1)) 7 0) - 1)) hx hb hr (fun t9 ht hW => ⟨⟨(((sU (sU (sU (sU S0 8 ((S0 7 0).toNatClampNeg) 0) 9 ((S0 7 0).toNatClampNeg) 0) 10 ((S0 7 0).toNatClampNeg) (-5)) 7 0 ((S0 7 0) + 1)) 7 0) - 1), ((sU (sU (sU (sU S0 8 ((S0 7 0).toNatClampNeg) 0) 9 ((S0 7 0).toNatClampNeg) 0) 10 ((S0 7 0).toNatClampNeg) (-5)) 7 0 ((S0 7 0) + 1)), G), rfl, (by rw [← hS0]; exact ⟨by simp only [ms_loan, cif_f c_1, sU_s], by simp only [ms_loan, cif_f c_1, sU_s]⟩), by rw [ht]; exact hP, va_K.moved hW.alike hK, by rw [hAe]; exact hD⟩, hS.F ht⟩) hS.2.2 dX2_loan_64
  · refine lv_bipush (v := -4) hx hb dX2_loan_14 (by decide) ?_
    exact W.iret (v := (-4)) hx hb hr (fun t9 ht hW => ⟨⟨(-4), (S0, G), rfl, (by rw [← hS0]; exact ⟨by simp only [ms_loan, cif_t c_1, sU_s], by simp only [ms_loan, cif_t c_1, sU_s]⟩), by rw [ht]; exact hP, va_K.moved hW.alike hK, by rw [hAe]; exact hD⟩, hS.F ht⟩) hS.2.2 dX2_loan_16
