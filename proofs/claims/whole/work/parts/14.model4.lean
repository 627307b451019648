
noncomputable def mcn (S : Nat → Nat → Int32) : Nat → Int32
  | 0 => 0
  | k + 1 => cif (S 0 (nI k).toNatClampNeg = 18) (mcn S k + 1) (mcn S k + 0)
noncomputable def mcf (S : Nat → Nat → Int32) : Nat → Int32
  | 0 => 0
  | k + 1 => cif (S 0 (nI k).toNatClampNeg = 18) (cif (mnx S (nI k) < 0) (mcf S k + 0) (mcf S k + 1)) (mcf S k + 0)
noncomputable def ms_count (S : Nat → Nat → Int32) (n : Nat) (w : Int32) : Int32 := if w = 0 then S 6 0 else if w = 1 then mcn S n else if w = 2 then mcf S n else if w = 3 then S 7 0 else cif (mIn w.toInt64 4 8) (S 5 (w - 3).toNatClampNeg) (-2)
def mcl (S : Nat → Nat → Int32) : Nat → (Nat → Nat → Int32)
  | 0 => sU (sU S 6 0 0) 7 0 0
  | k + 1 => sU (mcl S k) 5 (nI k).toNatClampNeg 0
noncomputable def mlv (l : Int32) : Nat → Nat → (Nat → Nat → Int32) → Int32 × (Nat → Nat → Int32)
  | _, 0, S => (1, sU S 8 l.toNatClampNeg 2)
  | w, k + 1, S => cif (0 ≤ mnx S (S 11 (8 * l + nI w).toNatClampNeg)) (cif (mOf S (mnx S (S 11 (8 * l + nI w).toNatClampNeg)) (S 12 (8 * l + nI w).toNatClampNeg)) (mlv l (w + 1) k (sU (sU S 13 (8 * l + nI w).toNatClampNeg (mnx S (S 11 (8 * l + nI w).toNatClampNeg))) 4 (10 * S 11 (8 * l + nI w).toNatClampNeg).toNatClampNeg (-1))) (-30 - 1, xfd (sU (sU S 8 l.toNatClampNeg 1) 10 l.toNatClampNeg (nI w)) 1)) (-30 - 2, xfd (sU (sU S 8 l.toNatClampNeg 1) 10 l.toNatClampNeg (nI w)) 2)
noncomputable def ms_leave (S : Nat → Nat → Int32) (l : Int32) : Int32 × (Nat → Nat → Int32) := cif (mLn S l) (cif (S 8 l.toNatClampNeg = 0) (mlv l 0 (S 9 l.toNatClampNeg).toNatClampNeg S) (-3, S)) (-1, S)
noncomputable def mbk (l : Int32) : Nat → Int32 → Int32 → (Nat → Nat → Int32) → Int32 × (Nat → Nat → Int32)
  | 0, c, lf, S => (c, sU (sU S 8 l.toNatClampNeg (cif (lf = -5) 3 1)) 10 l.toNatClampNeg lf)
  | k + 1, c, lf, S => cif (0 ≤ S 13 (8 * l + nI k).toNatClampNeg) (cif (0 ≤ mnx S (S 11 (8 * l + nI k).toNatClampNeg)) (mbk l k c (nI k) S) (cif (S 13 (8 * l + nI k).toNatClampNeg = S 11 (8 * l + nI k).toNatClampNeg) (mbk l k c (nI k) S) (cif (mwi S (S 11 (8 * l + nI k).toNatClampNeg) 110 (S 13 (8 * l + nI k).toNatClampNeg)) (mbk l k c (nI k) S) (mbk l k (c + 1) lf (sU (sU S 4 (10 * S 11 (8 * l + nI k).toNatClampNeg).toNatClampNeg (S 13 (8 * l + nI k).toNatClampNeg)) 13 (8 * l + nI k).toNatClampNeg (-1)))))) (mbk l k c lf S)
noncomputable def ms_back (S : Nat → Nat → Int32) (l : Int32) : Int32 × (Nat → Nat → Int32) := cif (mLn S l) (cif (S 8 l.toNatClampNeg = 0) (-3, S) (cif (S 8 l.toNatClampNeg = 3) (-3, S) (mbk l (S 9 l.toNatClampNeg).toNatClampNeg 0 (-5) S))) (-1, S)
theorem men_oth {S : Nat → Nat → Int32} {a k : Nat} {v : Int32} (h0 : ¬ 0 = a) (h4 : ¬ 4 = a) (h : ∀ t, mV t → men S 110 t) : ∀ t, mV t → men (sU S a k v) 110 t := by
  have e0 : sU S a k v 0 = S 0 := by simp [sU, h0]
  have e4 : sU S a k v 4 = S 4 := by simp [sU, h4]
  have key : ∀ n t, men S n t → men (sU S a k v) n t := by
    intro n
    induction n with
    | zero => intro t ht hc; exact ht ⟨hc.1, by rw [← e0]; exact hc.2⟩
    | succ n ih =>
      intro t ht hc
      have := ih _ (ht ⟨hc.1, by rw [← e0]; exact hc.2⟩)
      show men (sU S a k v) n (sU S a k v 4 (10 * t).toNatClampNeg)
      rw [e4]
      exact this
  exact fun t ht => key 110 t (h t ht)
theorem v13_put {S : Nat → Nat → Int32} (h : ∀ i, i < 64 → mV (S 13 i)) {k : Nat} {v : Int32} (hv : mV v) : ∀ i, i < 64 → mV (sU S 13 k v 13 i) := by
  intro i hi
  show mV (upd (S 13) k v i)
  unfold upd
  by_cases e : i = k
  · rw [if_pos e]; exact hv
  · rw [if_neg e]; exact h i hi
set_option maxHeartbeats 4000000 in
set_option maxRecDepth 100000 in
theorem c_X2_kinds (l : Launch) (D : va_G) (kI kJ kL : ClassId) (a : Nat → Nat) (S : Nat → Nat → Int32) (G : Nat → Int64) (sz : Nat) (t : Int32) (n : Nat) (hn6 : S 6 0 = nI n) (hn : n ≤ 110) (hfm : ∀ i, i < 110 → vp_in (S 0 i) 19) : Met l yX2_kinds wsX2_kinds ({ frames := 2, cells := 0, slots := 0, locals := 46 }) (q_wP D (xTY kI kJ kL) (mW kI kJ a S G) sz [.ref (a 0), .int t]) (va_Qi (fun r (u : (Nat → Nat → Int32) × (Nat → Int64)) => r = (ms_kinds (sU S 16 0 0) t) ∧ u = ((sU S 16 0 0), G)) (q_wB D (xTY kI kJ kL) (mW kI kJ a S G) sz (fun u : (Nat → Nat → Int32) × (Nat → Int64) => mW kI kJ a u.1 u.2)) (va_A (mW kI kJ a S G) sz)) 0 0 (va_A (mW kI kJ a S G) sz) := by
  refine Met.ofW (cc := cX2_kinds) (maxL := 4) (ret := (some .int)) (by decide) rfl ?_
  intro p e s m args below meth c s₁ Bd hml hv
  obtain ⟨rfl, hsz, hP, hK, hD0, hN⟩ := hv
  have hx := Bd.exec
  have hb := Bd.bytes
  have hr := Bd.returns
  have hts := atoms_spec (ws := wsX2_kinds) Bd.pre
  have hown : s.vm.findClass RX2 = some m.cls := findClass_of_methodNamed Bd.named
  have hlocks := Bd.notSynchronized
  subst hsz
  have hD := hD0.self (sz := s.heap.size)
  generalize hAe : va_A (mW kI kJ a S G) s.heap.size = A at hD ⊢
  have hA : ∀ q : Nat, s.heap.size ≤ q → A q := fun q h => by rw [← hAe]; exact Or.inr h
  have hS : va_S A s.heap s.heap [] := va_S.rf
  have hl := lv_entry ([.ref (a 0), .int t]) (n := 4) (Nat.le_of_ble_eq_true rfl)
  rw [lg_entry_eq]
  generalize (lg_sl ([.ref (a 0), .int t]) ++ List.replicate (4 - (lg_sl ([.ref (a 0), .int t])).length) Slot.unset).toArray = ls at hl ⊢
  have hl : lv_has ls 4 [(0, .ref (a 0)), (1, .int t)] := hl
  have hinX2 : ∀ w ∈ u_ws RX2 TX2 17, w ∈ wsX2_kinds := by decide +kernel
  refine lv_aload_n hx hb dX2_kinds_0 rfl (lv_at hl 0 rfl) ?_
  refine lv_iconst (v := 0) hx hb dX2_kinds_1 (by decide) ?_
  refine va_put (D := D) (ci := 5) (v := .int 0) (ty := .int) (C := RX2) (T := TX2) (N := 17) hx hb hts hinX2 tyX2 tyX2_ok nmX2 hown hK hP hD hS 0 rfl rfl 0 (by decide) (hts (.fieldLink RX2 59 "LoanCasesModel" "fault" "I") (by decide +kernel)) (fun _ h9 => h9) rfl (by decide +kernel) rfl rfl (Nat.le_of_ble_eq_true rfl) dX2_kinds_2 (fun H locs hP hD hS => ?_)
  have hP : va_P D vwCl (mW kI kJ a (sU S 16 0 0) G) H := hP
  have hD : va_D A (mW kI kJ a (sU S 16 0 0) G) := hD
  obtain ⟨S0, hS0⟩ : ∃ S0, S0 = sU S 16 0 0 := ⟨_, rfl⟩
  rw [← hS0] at hP hD
  have hn6 : S0 6 0 = nI n := by rw [hS0]; exact hn6
  have hfm : ∀ i, i < 110 → vp_in (S0 0 i) 19 := by rw [hS0]; exact hfm
  refine lv_aload_n hx hb dX2_kinds_5 rfl (lv_at hl 0 rfl) ?_
  refine lv_iload_n hx hb dX2_kinds_6 rfl (lv_at hl 1 rfl) ?_
  refine vp_callSi (W.runV (As := [.int t]) (rest := []) ⟨hx, hb, hml, hown, hts⟩ (c_X2_isThing l D kI kJ kL a S0 G t) (cwV 1 hts gX2_kinds_X2_isThing rfl rfl rfl (by decide +kernel) ⟨Nat.le_of_ble_eq_true rfl, Nat.le_of_ble_eq_true rfl⟩) (q_rV (w2 := []) hK hN (by rw [List.append_nil]; exact hP) (va_recv hK hP (ci := 5) (q0 := 0) rfl rfl)) rfl rfl hl.1 rfl (lv_room (Nat.le_of_ble_eq_true rfl)) dX2_kinds_7 ⟨Nat.le_of_ble_eq_true rfl, Nat.le_of_ble_eq_true rfl⟩) (fun r_h_1 h_1 => ?_)
  rcases h_1 with ⟨rfl, h_1⟩ | ⟨rfl, h_1⟩
  · refine lv_if_ne (tgt := 15) hx hb dX2_kinds_10 (by decide) (fun c_2 => ?_) (fun c_2 => absurd c_2 (by decide))
    refine lv_iconst (v := 0) hx hb dX2_kinds_15 (by decide) ?_
    refine lv_istore_n (lv' := [(2, .int 0), (0, .ref (a 0)), (1, .int t)]) hx hb dX2_kinds_16 rfl hl (by decide) rfl (fun ls hl => ?_)
    refine lv_iconst (v := 0) hx hb dX2_kinds_17 (by decide) ?_
    refine lv_istore_n (lv' := [(3, .int 0), (2, .int 0), (0, .ref (a 0)), (1, .int t)]) hx hb dX2_kinds_18 rfl hl (by decide) rfl (fun ls hl => ?_)
    have loop19 : ∀ (n19 : Nat) (i : Nat) (x2 : Int32), (21 ≤ i + n19) → (i ≤ 20) → (x2 = mkn S0 t i) → ∀ (ls : Array Slot), lv_has ls 4 [(0, .ref (a 0)), (1, .int t), (2, .int x2), (3, .int (nI i))] → W p l e ({ frames := 2, cells := 0, slots := 0, locals := 46 }) s m ([.ref (a 0), .int t] : List Value).toArray below meth c H locs 0 0 (MQ below (va_Qi (fun r (u : (Nat → Nat → Int32) × (Nat → Int64)) => r = (ms_kinds (sU S 16 0 0) t) ∧ u = ((sU S 16 0 0), G)) (q_wB D (xTY kI kJ kL) (mW kI kJ a S G) s.heap.size (fun u : (Nat → Nat → Int32) × (Nat → Int64) => mW kI kJ a u.1 u.2)) A) ([.ref (a 0), .int t] : List Value).toArray s 0 0 A) (F0 m 19 ls []) := by
      intro n19
      induction n19 with
      | zero =>
        intro i x2 hf hi hv
        exact absurd hf (by omega)
      | succ n19 ih19 =>
        intro i x2 hf hi hv ls hl
        refine lv_iload_n hx hb dX2_kinds_19 rfl (lv_at hl 3 rfl) ?_
        refine lv_bipush (v := 20) hx hb dX2_kinds_20 (by decide) ?_
        refine lv_icmp_ge (tgt := 48) hx hb dX2_kinds_22 (by decide) (fun c_3 => ?_) (fun c_3 => ?_)
        · have hi2 : 20 ≤ i := (nI_leI (a := 20) (b := i) (by omega) (by omega)).mp c_3
          refine lv_iload_n hx hb dX2_kinds_48 rfl (lv_at hl 2 rfl) ?_
          exact W.iret (v := x2) hx hb hr (fun t9 ht hW => ⟨⟨x2, (S0, G), rfl, (by rw [← hS0]; exact ⟨by rw [ms_kinds, cif_t h_1, hv, show i = 20 by omega], rfl⟩), by rw [ht]; exact hP, va_K.moved hW.alike hK, by rw [hAe]; exact hD⟩, hS.F ht⟩) hS.2.2 dX2_kinds_49
        · have hi2 : i < 20 := Nat.lt_of_not_le (fun h8 => c_3 ((nI_leI (a := 20) (b := i) (by omega) (by omega)).mpr h8))
          refine lv_iload_n hx hb dX2_kinds_25 rfl (lv_at hl 2 rfl) ?_
          refine lv_aload_n hx hb dX2_kinds_26 rfl (lv_at hl 0 rfl) ?_
          refine lv_iload_n hx hb dX2_kinds_27 rfl (lv_at hl 1 rfl) ?_
          refine lv_iload_n hx hb dX2_kinds_28 rfl (lv_at hl 3 rfl) ?_
          refine vp_callSi (W.runV (As := [.int t, .int (nI i)]) (rest := [.int x2]) ⟨hx, hb, hml, hown, hts⟩ (c_X2_isOf l D kI kJ kL a S0 G t (nI i) (mT_in hn6 hn h_1) hfm) (cwV 2 hts gX2_kinds_X2_isOf rfl rfl rfl (by decide +kernel) ⟨Nat.le_of_ble_eq_true rfl, Nat.le_of_ble_eq_true rfl⟩) (q_rV (w2 := []) hK hN (by rw [List.append_nil]; exact hP) (va_recv hK hP (ci := 5) (q0 := 0) rfl rfl)) rfl rfl hl.1 rfl (lv_room (Nat.le_of_ble_eq_true rfl)) dX2_kinds_29 ⟨Nat.le_of_ble_eq_true rfl, Nat.le_of_ble_eq_true rfl⟩) (fun r_h_4 h_4 => ?_)
          rcases h_4 with ⟨rfl, h_4⟩ | ⟨rfl, h_4⟩
          · refine lv_if_eq (tgt := 39) hx hb dX2_kinds_32 (by decide) (fun c_5 => absurd c_5 (by decide)) (fun c_5 => ?_)
            refine lv_iconst (v := 1) hx hb dX2_kinds_35 (by decide) ?_
            refine lv_goto (tgt := 40) hx hb dX2_kinds_36 (by decide) ?_
            refine lv_iadd hx hb dX2_kinds_40 ?_
            refine lv_istore_n (lv' := [(2, .int (x2 + 1)), (0, .ref (a 0)), (1, .int t), (3, .int (nI i))]) hx hb dX2_kinds_41 rfl hl (by decide) rfl (fun ls hl => ?_)
            obtain ⟨x_6, ex_6⟩ : ∃ y : Int32, y = (nI i) + (1) := ⟨_, rfl⟩
            refine lv_iinc (v := x_6) (lv' := [(3, .int x_6), (2, .int (x2 + 1)), (0, .ref (a 0)), (1, .int t)]) hx hb dX2_kinds_42 hl (k := 3) rfl (by rw [ex_6]; rfl) (by decide) rfl (fun ls hl => ?_)
            refine lv_goto (tgt := 19) hx hb dX2_kinds_45 (by decide) ?_
            rw [show x_6 = nI (i + 1) from (ex_6).trans (nI_1 i)] at hl
            exact ih19 (i + 1) (x2 + 1) (by omega) (by omega) (by rw [hv, mkn, cif_t h_4]) ls (lv_sub hl [2, 3, 1, 0] rfl)
          · refine lv_if_eq (tgt := 39) hx hb dX2_kinds_32 (by decide) (fun c_7 => ?_) (fun c_7 => absurd c_7 (by decide))
            refine lv_iconst (v := 0) hx hb dX2_kinds_39 (by decide) ?_
            refine lv_iadd hx hb dX2_kinds_40 ?_
            refine lv_istore_n (lv' := [(2, .int (x2 + 0)), (0, .ref (a 0)), (1, .int t), (3, .int (nI i))]) hx hb dX2_kinds_41 rfl hl (by decide) rfl (fun ls hl => ?_)
            obtain ⟨x_8, ex_8⟩ : ∃ y : Int32, y = (nI i) + (1) := ⟨_, rfl⟩
            refine lv_iinc (v := x_8) (lv' := [(3, .int x_8), (2, .int (x2 + 0)), (0, .ref (a 0)), (1, .int t)]) hx hb dX2_kinds_42 hl (k := 3) rfl (by rw [ex_8]; rfl) (by decide) rfl (fun ls hl => ?_)
            refine lv_goto (tgt := 19) hx hb dX2_kinds_45 (by decide) ?_
            rw [show x_8 = nI (i + 1) from (ex_8).trans (nI_1 i)] at hl
            exact ih19 (i + 1) (x2 + 0) (by omega) (by omega) (by rw [hv, mkn, cif_f h_4]) ls (lv_sub hl [2, 3, 1, 0] rfl)
    exact loop19 21 0 0 (by omega) (by omega) rfl ls (lv_sub hl [2, 3, 1, 0] rfl)
  · refine lv_if_ne (tgt := 15) hx hb dX2_kinds_10 (by decide) (fun c_9 => absurd c_9 (by decide)) (fun c_9 => ?_)
    refine lv_iconst (v := -1) hx hb dX2_kinds_13 (by decide) ?_
    exact W.iret (v := (-1)) hx hb hr (fun t9 ht hW => ⟨⟨(-1), (S0, G), rfl, (by rw [← hS0]; exact ⟨by simp only [ms_kinds, cif_f h_1, sU_s], rfl⟩), by rw [ht]; exact hP, va_K.moved hW.alike hK, by rw [hAe]; exact hD⟩, hS.F ht⟩) hS.2.2 dX2_kinds_14

set_option maxHeartbeats 4000000 in
set_option maxRecDepth 100000 in
theorem c_X2_depth (l : Launch) (D : va_G) (kI kJ kL : ClassId) (a : Nat → Nat) (S : Nat → Nat → Int32) (G : Nat → Int64) (sz : Nat) (b : Int32) (n : Nat) (hn6 : S 6 0 = nI n) (hn : n ≤ 110) (hpv : ∀ i, i < 1100 → S 4 i < 0 ∨ vp_in (S 4 i) 110) (hen : ∀ t : Int32, (t < 0 ∨ vp_in t 110) → men S 110 t) : Met l yX2_depth wsX2_depth ({ frames := 3, cells := 0, slots := 0, locals := 67 }) (q_wP D (xTY kI kJ kL) (mW kI kJ a S G) sz [.ref (a 0), .int b]) (va_Qi (fun r (u : (Nat → Nat → Int32) × (Nat → Int64)) => r = (ms_depth (sU S 16 0 0) b) ∧ u = ((sU S 16 0 0), G)) (q_wB D (xTY kI kJ kL) (mW kI kJ a S G) sz (fun u : (Nat → Nat → Int32) × (Nat → Int64) => mW kI kJ a u.1 u.2)) (va_A (mW kI kJ a S G) sz)) 0 0 (va_A (mW kI kJ a S G) sz) := by
  refine Met.ofW (cc := cX2_depth) (maxL := 4) (ret := (some .int)) (by decide) rfl ?_
  intro p e s m args below meth c s₁ Bd hml hv
  obtain ⟨rfl, hsz, hP, hK, hD0, hN⟩ := hv
  have hx := Bd.exec
  have hb := Bd.bytes
  have hr := Bd.returns
  have hts := atoms_spec (ws := wsX2_depth) Bd.pre
  have hown : s.vm.findClass RX2 = some m.cls := findClass_of_methodNamed Bd.named
  have hlocks := Bd.notSynchronized
  subst hsz
  have hD := hD0.self (sz := s.heap.size)
  generalize hAe : va_A (mW kI kJ a S G) s.heap.size = A at hD ⊢
  have hA : ∀ q : Nat, s.heap.size ≤ q → A q := fun q h => by rw [← hAe]; exact Or.inr h
  have hS : va_S A s.heap s.heap [] := va_S.rf
  have hl := lv_entry ([.ref (a 0), .int b]) (n := 4) (Nat.le_of_ble_eq_true rfl)
  rw [lg_entry_eq]
  generalize (lg_sl ([.ref (a 0), .int b]) ++ List.replicate (4 - (lg_sl ([.ref (a 0), .int b])).length) Slot.unset).toArray = ls at hl ⊢
  have hl : lv_has ls 4 [(0, .ref (a 0)), (1, .int b)] := hl
  have hinX2 : ∀ w ∈ u_ws RX2 TX2 17, w ∈ wsX2_depth := by decide +kernel
  refine lv_aload_n hx hb dX2_depth_0 rfl (lv_at hl 0 rfl) ?_
  refine lv_iconst (v := 0) hx hb dX2_depth_1 (by decide) ?_
  refine va_put (D := D) (ci := 5) (v := .int 0) (ty := .int) (C := RX2) (T := TX2) (N := 17) hx hb hts hinX2 tyX2 tyX2_ok nmX2 hown hK hP hD hS 0 rfl rfl 0 (by decide) (hts (.fieldLink RX2 59 "LoanCasesModel" "fault" "I") (by decide +kernel)) (fun _ h9 => h9) rfl (by decide +kernel) rfl rfl (Nat.le_of_ble_eq_true rfl) dX2_depth_2 (fun H locs hP hD hS => ?_)
  have hP : va_P D vwCl (mW kI kJ a (sU S 16 0 0) G) H := hP
  have hD : va_D A (mW kI kJ a (sU S 16 0 0) G) := hD
  obtain ⟨S0, hS0⟩ : ∃ S0, S0 = sU S 16 0 0 := ⟨_, rfl⟩
  rw [← hS0] at hP hD
  have hn6 : S0 6 0 = nI n := by rw [hS0]; exact hn6
  have hpv : ∀ i, i < 1100 → S0 4 i < 0 ∨ vp_in (S0 4 i) 110 := by rw [hS0]; exact hpv
  have hen : ∀ t : Int32, (t < 0 ∨ vp_in t 110) → men S0 110 t := by rw [hS0]; exact hen
  refine lv_aload_n hx hb dX2_depth_5 rfl (lv_at hl 0 rfl) ?_
  refine lv_iload_n hx hb dX2_depth_6 rfl (lv_at hl 1 rfl) ?_
  refine vp_callSi (W.runV (As := [.int b]) (rest := []) ⟨hx, hb, hml, hown, hts⟩ (c_X2_isCase l D kI kJ kL a S0 G b n hn6 hn) (cwV 1 hts gX2_depth_X2_isCase rfl rfl rfl (by decide +kernel) ⟨Nat.le_of_ble_eq_true rfl, Nat.le_of_ble_eq_true rfl⟩) (q_rV (w2 := []) hK hN (by rw [List.append_nil]; exact hP) (va_recv hK hP (ci := 5) (q0 := 0) rfl rfl)) rfl rfl hl.1 rfl (lv_room (Nat.le_of_ble_eq_true rfl)) dX2_depth_7 ⟨Nat.le_of_ble_eq_true rfl, Nat.le_of_ble_eq_true rfl⟩) (fun r_h_1 h_1 => ?_)
  rcases h_1 with ⟨rfl, h_1⟩ | ⟨rfl, h_1⟩
  · refine lv_if_ne (tgt := 15) hx hb dX2_depth_10 (by decide) (fun c_2 => ?_) (fun c_2 => absurd c_2 (by decide))
    refine lv_iconst (v := 1) hx hb dX2_depth_15 (by decide) ?_
    refine lv_istore_n (lv' := [(2, .int 1), (0, .ref (a 0)), (1, .int b)]) hx hb dX2_depth_16 rfl hl (by decide) rfl (fun ls hl => ?_)
    refine lv_aload_n hx hb dX2_depth_17 rfl (lv_at hl 1 rfl) ?_
    refine lv_iload_n hx hb dX2_depth_18 rfl (lv_at hl 2 rfl) ?_
    refine vp_callSi (W.runV (As := [.int b]) (rest := []) ⟨hx, hb, hml, hown, hts⟩ (c_X2_heldBy l D kI kJ kL a S0 G b (mT_in hn6 hn h_1.1)) (cwV 1 hts gX2_depth_X2_heldBy rfl rfl rfl (by decide +kernel) ⟨Nat.le_of_ble_eq_true rfl, Nat.le_of_ble_eq_true rfl⟩) (q_rV (w2 := []) hK hN (by rw [List.append_nil]; exact hP) (va_recv hK hP (ci := 5) (q0 := 0) rfl rfl)) rfl rfl hl.1 rfl (lv_room (Nat.le_of_ble_eq_true rfl)) dX2_depth_19 ⟨Nat.le_of_ble_eq_true rfl, Nat.le_of_ble_eq_true rfl⟩) (fun r_4 h_3 => ?_)
    subst h_3
    refine lv_istore_n (lv' := [(3, .int (mnx S0 b)), (2, .int 1), (0, .ref (a 0)), (1, .int b)]) hx hb dX2_depth_22 rfl hl (by decide) rfl (fun ls hl => ?_)
    have loop23 : ∀ (n23 : Nat) (k : Nat) (x3 x2 : Int32), (k < n23) → (mdp S0 k x3 x2 = mdp S0 110 (mnx S0 b) 1) → (men S0 k x3) → (x3 < 0 ∨ vp_in x3 110) → ∀ (ls : Array Slot), lv_has ls 4 [(0, .ref (a 0)), (1, .int b), (2, .int x2), (3, .int x3)] → W p l e ({ frames := 3, cells := 0, slots := 0, locals := 67 }) s m ([.ref (a 0), .int b] : List Value).toArray below meth c H locs 0 0 (MQ below (va_Qi (fun r (u : (Nat → Nat → Int32) × (Nat → Int64)) => r = (ms_depth (sU S 16 0 0) b) ∧ u = ((sU S 16 0 0), G)) (q_wB D (xTY kI kJ kL) (mW kI kJ a S G) s.heap.size (fun u : (Nat → Nat → Int32) × (Nat → Int64) => mW kI kJ a u.1 u.2)) A) ([.ref (a 0), .int b] : List Value).toArray s 0 0 A) (F0 m 23 ls []) := by
      intro n23
      induction n23 with
      | zero =>
        intro k x3 x2 hf hv hen2 hxv
        exact absurd hf (by omega)
      | succ n23 ih23 =>
        intro k x3 x2 hf hv hen2 hxv ls hl
        refine lv_iload_n hx hb dX2_depth_23 rfl (lv_at hl 3 rfl) ?_
        refine lv_if_lt (tgt := 50) hx hb dX2_depth_24 (by decide) (fun c_5 => ?_) (fun c_5 => ?_)
        · have hnC : ¬ mC S0 x3 := fun h7 => h7.1 c_5
          have hE : x2 = mdp S0 110 (mnx S0 b) 1 := by
            rw [← hv]
            rcases k with _ | k
            · rfl
            · rw [mdp, cif_f hnC]
          refine lv_iload_n hx hb dX2_depth_50 rfl (lv_at hl 2 rfl) ?_
          exact W.iret (v := x2) hx hb hr (fun t9 ht hW => ⟨⟨x2, (S0, G), rfl, (by rw [← hS0]; exact ⟨by rw [ms_depth, cif_t h_1]; exact hE, rfl⟩), by rw [ht]; exact hP, va_K.moved hW.alike hK, by rw [hAe]; exact hD⟩, hS.F ht⟩) hS.2.2 dX2_depth_51
        · have hx110 : vp_in x3 110 := mfl_ge hxv c_5
          refine lv_aload_n hx hb dX2_depth_27 rfl (lv_at hl 0 rfl) ?_
          refine va_get (D := D) (ci := 5) (v := .ref (a 1)) (C := RX2) (T := TX2) (N := 17) hx hb hts hinX2 hown hK hP 0 rfl rfl 2 (by decide) (hts (.fieldLink RX2 7 "LoanCasesModel" "forms" "[I") (by decide +kernel)) (fun _ h9 => h9) rfl dX2_depth_28 ?_
          refine lv_iload_n hx hb dX2_depth_31 rfl (lv_at hl 3 rfl) ?_
          refine va_iald (f := S0 0) hx hb hK hP 1 0 rfl rfl hx110 dX2_depth_32 ?_
          refine lv_bipush (v := 18) hx hb dX2_depth_33 (by decide) ?_
          refine lv_icmp_ne (tgt := 50) hx hb dX2_depth_35 (by decide) (fun c_6 => ?_) (fun c_6 => ?_)
          · have hnC : ¬ mC S0 x3 := fun h7 => c_6 h7.2
            have hE : x2 = mdp S0 110 (mnx S0 b) 1 := by
              rw [← hv]
              rcases k with _ | k
              · rfl
              · rw [mdp, cif_f hnC]
            refine lv_iload_n hx hb dX2_depth_50 rfl (lv_at hl 2 rfl) ?_
            exact W.iret (v := x2) hx hb hr (fun t9 ht hW => ⟨⟨x2, (S0, G), rfl, (by rw [← hS0]; exact ⟨by rw [ms_depth, cif_t h_1]; exact hE, rfl⟩), by rw [ht]; exact hP, va_K.moved hW.alike hK, by rw [hAe]; exact hD⟩, hS.F ht⟩) hS.2.2 dX2_depth_51
          · have hC : mC S0 x3 := ⟨c_5, c_6⟩
            have hnv := hpv _ (vin_lt (m10_in hx110))
            rcases k with _ | k
            · exact absurd hC hen2
            have hen2 := hen2 hC
            rw [mdp, cif_t hC] at hv
            obtain ⟨x_7, ex_7⟩ : ∃ y : Int32, y = x2 + (1) := ⟨_, rfl⟩
            refine lv_iinc (v := x_7) (lv' := [(2, .int x_7), (0, .ref (a 0)), (1, .int b), (3, .int x3)]) hx hb dX2_depth_38 hl (k := 2) rfl (by rw [ex_7]; rfl) (by decide) rfl (fun ls hl => ?_)
            refine lv_aload_n hx hb dX2_depth_41 rfl (lv_at hl 1 rfl) ?_
            refine lv_iload_n hx hb dX2_depth_42 rfl (lv_at hl 3 rfl) ?_
            refine vp_callSi (W.runV (As := [.int x3]) (rest := []) ⟨hx, hb, hml, hown, hts⟩ (c_X2_heldBy l D kI kJ kL a S0 G x3 hx110) (cwV 1 hts gX2_depth_X2_heldBy rfl rfl rfl (by decide +kernel) ⟨Nat.le_of_ble_eq_true rfl, Nat.le_of_ble_eq_true rfl⟩) (q_rV (w2 := []) hK hN (by rw [List.append_nil]; exact hP) (va_recv hK hP (ci := 5) (q0 := 0) rfl rfl)) rfl rfl hl.1 rfl (lv_room (Nat.le_of_ble_eq_true rfl)) dX2_depth_43 ⟨Nat.le_of_ble_eq_true rfl, Nat.le_of_ble_eq_true rfl⟩) (fun r_9 h_8 => ?_)
            subst h_8
            refine lv_istore_n (lv' := [(3, .int (mnx S0 x3)), (2, .int x_7), (0, .ref (a 0)), (1, .int b)]) hx hb dX2_depth_46 rfl hl (by decide) rfl (fun ls hl => ?_)
            refine lv_goto (tgt := 23) hx hb dX2_depth_47 (by decide) ?_
            exact ih23 k (mnx S0 x3) x_7 (by omega) (by rw [ex_7]; exact hv) hen2 hnv ls (lv_sub hl [2, 3, 1, 0] rfl)
    exact loop23 111 110 (mnx S0 b) 1 (by omega) rfl (hen _ (hpv _ (vin_lt (m10_in (mT_in hn6 hn h_1.1))))) (hpv _ (vin_lt (m10_in (mT_in hn6 hn h_1.1)))) ls (lv_sub hl [2, 3, 1, 0] rfl)
  · refine lv_if_ne (tgt := 15) hx hb dX2_depth_10 (by decide) (fun c_10 => absurd c_10 (by decide)) (fun c_10 => ?_)
    refine lv_iconst (v := -1) hx hb dX2_depth_13 (by decide) ?_
    exact W.iret (v := (-1)) hx hb hr (fun t9 ht hW => ⟨⟨(-1), (S0, G), rfl, (by rw [← hS0]; exact ⟨by simp only [ms_depth, cif_f h_1, sU_s], rfl⟩), by rw [ht]; exact hP, va_K.moved hW.alike hK, by rw [hAe]; exact hD⟩, hS.F ht⟩) hS.2.2 dX2_depth_14

set_option maxHeartbeats 4000000 in
set_option maxRecDepth 100000 in
theorem c_X2_told_ (l : Launch) (D : va_G) (kI kJ kL : ClassId) (a : Nat → Nat) (S : Nat → Nat → Int32) (G : Nat → Int64) (sz : Nat) (l_ : Int32) (w : Int32) (B : Nat) (hl7 : S 7 0 = nI B) (hB : B ≤ 8) (hw9 : ∀ i, i < 8 → ∃ n : Nat, n ≤ 8 ∧ S 9 i = nI n) : Met l yX2_told_ wsX2_told_ ({ frames := 2, cells := 0, slots := 0, locals := 46 }) (q_wP D (xTY kI kJ kL) (mW kI kJ a S G) sz [.ref (a 0), .int l_, .int w]) (va_Qi (fun r (u : (Nat → Nat → Int32) × (Nat → Int64)) => r = (ms_told (sU S 16 0 0) l_ w) ∧ u = ((sU S 16 0 0), G)) (q_wB D (xTY kI kJ kL) (mW kI kJ a S G) sz (fun u : (Nat → Nat → Int32) × (Nat → Int64) => mW kI kJ a u.1 u.2)) (va_A (mW kI kJ a S G) sz)) 0 0 (va_A (mW kI kJ a S G) sz) := by
  refine Met.ofW (cc := cX2_told_) (maxL := 5) (ret := (some .int)) (by decide) rfl ?_
  intro p e s m args below meth c s₁ Bd hml hv
  obtain ⟨rfl, hsz, hP, hK, hD0, hN⟩ := hv
  have hx := Bd.exec
  have hb := Bd.bytes
  have hr := Bd.returns
  have hts := atoms_spec (ws := wsX2_told_) Bd.pre
  have hown : s.vm.findClass RX2 = some m.cls := findClass_of_methodNamed Bd.named
  have hlocks := Bd.notSynchronized
  subst hsz
  have hD := hD0.self (sz := s.heap.size)
  generalize hAe : va_A (mW kI kJ a S G) s.heap.size = A at hD ⊢
  have hA : ∀ q : Nat, s.heap.size ≤ q → A q := fun q h => by rw [← hAe]; exact Or.inr h
  have hS : va_S A s.heap s.heap [] := va_S.rf
  have hl := lv_entry ([.ref (a 0), .int l_, .int w]) (n := 5) (Nat.le_of_ble_eq_true rfl)
  rw [lg_entry_eq]
  generalize (lg_sl ([.ref (a 0), .int l_, .int w]) ++ List.replicate (5 - (lg_sl ([.ref (a 0), .int l_, .int w])).length) Slot.unset).toArray = ls at hl ⊢
  have hl : lv_has ls 5 [(0, .ref (a 0)), (1, .int l_), (2, .int w)] := hl
  have hinX2 : ∀ w ∈ u_ws RX2 TX2 17, w ∈ wsX2_told_ := by decide +kernel
  refine lv_aload_n hx hb dX2_told__0 rfl (lv_at hl 0 rfl) ?_
  refine lv_iconst (v := 0) hx hb dX2_told__1 (by decide) ?_
  refine va_put (D := D) (ci := 5) (v := .int 0) (ty := .int) (C := RX2) (T := TX2) (N := 17) hx hb hts hinX2 tyX2 tyX2_ok nmX2 hown hK hP hD hS 0 rfl rfl 0 (by decide) (hts (.fieldLink RX2 59 "LoanCasesModel" "fault" "I") (by decide +kernel)) (fun _ h9 => h9) rfl (by decide +kernel) rfl rfl (Nat.le_of_ble_eq_true rfl) dX2_told__2 (fun H locs hP hD hS => ?_)
  have hP : va_P D vwCl (mW kI kJ a (sU S 16 0 0) G) H := hP
  have hD : va_D A (mW kI kJ a (sU S 16 0 0) G) := hD
  obtain ⟨S0, hS0⟩ : ∃ S0, S0 = sU S 16 0 0 := ⟨_, rfl⟩
  rw [← hS0] at hP hD
  have hl7 : S0 7 0 = nI B := by rw [hS0]; exact hl7
  have hw9 : ∀ i, i < 8 → ∃ n : Nat, n ≤ 8 ∧ S0 9 i = nI n := by rw [hS0]; exact hw9
  refine lv_aload_n hx hb dX2_told__5 rfl (lv_at hl 0 rfl) ?_
  refine lv_iload_n hx hb dX2_told__6 rfl (lv_at hl 1 rfl) ?_
  refine vp_callSi (W.runV (As := [.int l_]) (rest := []) ⟨hx, hb, hml, hown, hts⟩ (c_X2_isLoan l D kI kJ kL a S0 G l_) (cwV 1 hts gX2_told__X2_isLoan rfl rfl rfl (by decide +kernel) ⟨Nat.le_of_ble_eq_true rfl, Nat.le_of_ble_eq_true rfl⟩) (q_rV (w2 := []) hK hN (by rw [List.append_nil]; exact hP) (va_recv hK hP (ci := 5) (q0 := 0) rfl rfl)) rfl rfl hl.1 rfl (lv_room (Nat.le_of_ble_eq_true rfl)) dX2_told__7 ⟨Nat.le_of_ble_eq_true rfl, Nat.le_of_ble_eq_true rfl⟩) (fun r_h_1 h_1 => ?_)
  rcases h_1 with ⟨rfl, h_1⟩ | ⟨rfl, h_1⟩
  · refine lv_if_ne (tgt := 15) hx hb dX2_told__10 (by decide) (fun c_2 => ?_) (fun c_2 => absurd c_2 (by decide))
    refine lv_iload_n hx hb dX2_told__15 rfl (lv_at hl 2 rfl) ?_
    refine lv_i2l hx hb dX2_told__16 rfl ?_
    refine lv_lconst (v := 0) hx hb dX2_told__17 (by decide) ?_
    refine lv_ldc2 hx hb hown (hts (.constantLong RX2 99 (3)) (by decide +kernel)) dX2_told__18 ?_
    refine vp_callSi (W.runS (As := [.long (w.toInt64), .long 0, .long 3]) (rest := []) ⟨hx, hb, hml, hown, hts⟩ (c_X2_in l D kI kJ kL (w.toInt64) 0 3) (va_cwS 3 hts gX2_told__X2_in rfl rfl rfl (by decide +kernel) ⟨Nat.le_of_ble_eq_true rfl, Nat.le_of_ble_eq_true rfl⟩) (q_rS0 hK hN) rfl rfl hl.1 rfl (lv_room (Nat.le_of_ble_eq_true rfl)) dX2_told__21 ⟨Nat.le_of_ble_eq_true rfl, Nat.le_of_ble_eq_true rfl⟩) (fun r_h_3 h_3 => ?_)
    rcases h_3 with ⟨rfl, h_3⟩ | ⟨rfl, h_3⟩
    · have hl8 : vp_in l_ 8 := (mLn_in hl7 hB h_1)
      obtain ⟨n9, hn9, hW⟩ := hw9 _ (vin_lt hl8)
      have hWc : (S0 9 l_.toNatClampNeg).toNatClampNeg = n9 := by rw [hW]; exact nI_clamp (by omega)
      refine lv_if_ne (tgt := 30) hx hb dX2_told__24 (by decide) (fun c_4 => ?_) (fun c_4 => absurd c_4 (by decide))
      refine lv_iconst (v := 0) hx hb dX2_told__30 (by decide) ?_
      refine lv_istore_n (lv' := [(3, .int 0), (0, .ref (a 0)), (1, .int l_), (2, .int w)]) hx hb dX2_told__31 rfl hl (by decide) rfl (fun ls hl => ?_)
      refine lv_iconst (v := 0) hx hb dX2_told__32 (by decide) ?_
      refine lv_istore (lv' := [(4, .int 0), (3, .int 0), (0, .ref (a 0)), (1, .int l_), (2, .int w)]) hx hb dX2_told__33 hl (by decide) rfl (fun ls hl => ?_)
      have loop35 : ∀ (n35 : Nat) (i : Nat) (x3 : Int32), (n9 + 1 ≤ i + n35) → (i ≤ n9) → (x3 = mvn S0 l_ i) → ∀ (ls : Array Slot), lv_has ls 5 [(0, .ref (a 0)), (1, .int l_), (2, .int w), (3, .int x3), (4, .int (nI i))] → W p l e ({ frames := 2, cells := 0, slots := 0, locals := 46 }) s m ([.ref (a 0), .int l_, .int w] : List Value).toArray below meth c H locs 0 0 (MQ below (va_Qi (fun r (u : (Nat → Nat → Int32) × (Nat → Int64)) => r = (ms_told (sU S 16 0 0) l_ w) ∧ u = ((sU S 16 0 0), G)) (q_wB D (xTY kI kJ kL) (mW kI kJ a S G) s.heap.size (fun u : (Nat → Nat → Int32) × (Nat → Int64) => mW kI kJ a u.1 u.2)) A) ([.ref (a 0), .int l_, .int w] : List Value).toArray s 0 0 A) (F0 m 35 ls []) := by
        intro n35
        induction n35 with
        | zero =>
          intro i x3 hf hi hv
          exact absurd hf (by omega)
        | succ n35 ih35 =>
          intro i x3 hf hi hv ls hl
          refine lv_iload hx hb dX2_told__35 (lv_at hl 4 rfl) ?_
          refine lv_aload_n hx hb dX2_told__37 rfl (lv_at hl 0 rfl) ?_
          refine va_get (D := D) (ci := 5) (v := .ref (a 9)) (C := RX2) (T := TX2) (N := 17) hx hb hts hinX2 hown hK hP 0 rfl rfl 11 (by decide) (hts (.fieldLink RX2 41 "LoanCasesModel" "wants" "[I") (by decide +kernel)) (fun _ h9 => h9) rfl dX2_told__38 ?_
          refine lv_iload_n hx hb dX2_told__41 rfl (lv_at hl 1 rfl) ?_
          refine va_iald (f := S0 9) hx hb hK hP 9 0 rfl rfl hl8 dX2_told__42 ?_
          refine lv_icmp_ge (tgt := 75) hx hb dX2_told__43 (by decide) (fun c_5 => ?_) (fun c_5 => ?_)
          · rw [hW] at c_5
            have hi2 : i = n9 := by
              have h7 : n9 ≤ i := (nI_leI (a := n9) (b := i) (by omega) (by omega)).mp c_5
              omega
            refine lv_iload_n hx hb dX2_told__75 rfl (lv_at hl 2 rfl) ?_
            refine lv_if_ne (tgt := 88) hx hb dX2_told__76 (by decide) (fun c_6 => ?_) (fun c_6 => ?_)
            · refine lv_iload_n hx hb dX2_told__88 rfl (lv_at hl 2 rfl) ?_
              refine lv_iconst (v := 1) hx hb dX2_told__89 (by decide) ?_
              refine lv_icmp_ne (tgt := 102) hx hb dX2_told__90 (by decide) (fun c_7 => ?_) (fun c_7 => ?_)
              · refine lv_iload_n hx hb dX2_told__102 rfl (lv_at hl 2 rfl) ?_
                refine lv_iconst (v := 2) hx hb dX2_told__103 (by decide) ?_
                refine lv_icmp_ne (tgt := 111) hx hb dX2_told__104 (by decide) (fun c_8 => ?_) (fun c_8 => ?_)
                · refine lv_aload_n hx hb dX2_told__111 rfl (lv_at hl 0 rfl) ?_
                  refine va_get (D := D) (ci := 5) (v := .ref (a 10)) (C := RX2) (T := TX2) (N := 17) hx hb hts hinX2 hown hK hP 0 rfl rfl 12 (by decide) (hts (.fieldLink RX2 44 "LoanCasesModel" "stuckAt" "[I") (by decide +kernel)) (fun _ h9 => h9) rfl dX2_told__112 ?_
                  refine lv_iload_n hx hb dX2_told__115 rfl (lv_at hl 1 rfl) ?_
                  refine va_iald (f := S0 10) hx hb hK hP 10 0 rfl rfl hl8 dX2_told__116 ?_
                  exact W.iret (v := (S0 10 l_.toNatClampNeg)) hx hb hr (fun t9 ht hW => ⟨⟨(S0 10 l_.toNatClampNeg), (S0, G), rfl, (by rw [← hS0]; exact ⟨by simp only [ms_told, cif_t h_1, cif_t h_3, cif_t c_5, cif_f c_6, cif_f c_7, cif_f c_8], rfl⟩), by rw [ht]; exact hP, va_K.moved hW.alike hK, by rw [hAe]; exact hD⟩, hS.F ht⟩) hS.2.2 dX2_told__117
                · refine lv_iload_n hx hb dX2_told__107 rfl (lv_at hl 3 rfl) ?_
                  refine lv_goto (tgt := 117) hx hb dX2_told__108 (by decide) ?_
                  exact W.iret (v := x3) hx hb hr (fun t9 ht hW => ⟨⟨x3, (S0, G), rfl, (by rw [← hS0]; exact ⟨by simp only [ms_told, cif_t h_1, cif_t h_3, cif_t c_5, cif_f c_6, cif_f c_7, cif_t c_8, hWc, hv, hi2], rfl⟩), by rw [ht]; exact hP, va_K.moved hW.alike hK, by rw [hAe]; exact hD⟩, hS.F ht⟩) hS.2.2 dX2_told__117
              · refine lv_aload_n hx hb dX2_told__93 rfl (lv_at hl 0 rfl) ?_
                refine va_get (D := D) (ci := 5) (v := .ref (a 9)) (C := RX2) (T := TX2) (N := 17) hx hb hts hinX2 hown hK hP 0 rfl rfl 11 (by decide) (hts (.fieldLink RX2 41 "LoanCasesModel" "wants" "[I") (by decide +kernel)) (fun _ h9 => h9) rfl dX2_told__94 ?_
                refine lv_iload_n hx hb dX2_told__97 rfl (lv_at hl 1 rfl) ?_
                refine va_iald (f := S0 9) hx hb hK hP 9 0 rfl rfl hl8 dX2_told__98 ?_
                refine lv_goto (tgt := 117) hx hb dX2_told__99 (by decide) ?_
                exact W.iret (v := (S0 9 l_.toNatClampNeg)) hx hb hr (fun t9 ht hW => ⟨⟨(S0 9 l_.toNatClampNeg), (S0, G), rfl, (by rw [← hS0]; exact ⟨by simp only [ms_told, cif_t h_1, cif_t h_3, cif_t c_5, cif_f c_6, cif_t c_7], rfl⟩), by rw [ht]; exact hP, va_K.moved hW.alike hK, by rw [hAe]; exact hD⟩, hS.F ht⟩) hS.2.2 dX2_told__117
            · refine lv_aload_n hx hb dX2_told__79 rfl (lv_at hl 0 rfl) ?_
              refine va_get (D := D) (ci := 5) (v := .ref (a 8)) (C := RX2) (T := TX2) (N := 17) hx hb hts hinX2 hown hK hP 0 rfl rfl 10 (by decide) (hts (.fieldLink RX2 38 "LoanCasesModel" "states" "[I") (by decide +kernel)) (fun _ h9 => h9) rfl dX2_told__80 ?_
              refine lv_iload_n hx hb dX2_told__83 rfl (lv_at hl 1 rfl) ?_
              refine va_iald (f := S0 8) hx hb hK hP 8 0 rfl rfl hl8 dX2_told__84 ?_
              refine lv_goto (tgt := 117) hx hb dX2_told__85 (by decide) ?_
              exact W.iret (v := (S0 8 l_.toNatClampNeg)) hx hb hr (fun t9 ht hW => ⟨⟨(S0 8 l_.toNatClampNeg), (S0, G), rfl, (by rw [← hS0]; exact ⟨by simp only [ms_told, cif_t h_1, cif_t h_3, cif_t c_5, cif_t c_6], rfl⟩), by rw [ht]; exact hP, va_K.moved hW.alike hK, by rw [hAe]; exact hD⟩, hS.F ht⟩) hS.2.2 dX2_told__117
          · rw [hW] at c_5
            have hi2 : i < n9 := Nat.lt_of_not_le (fun h8 => c_5 ((nI_leI (a := n9) (b := i) (by omega) (by omega)).mpr h8))
            refine lv_iload_n hx hb dX2_told__46 rfl (lv_at hl 3 rfl) ?_
            refine lv_aload_n hx hb dX2_told__47 rfl (lv_at hl 0 rfl) ?_
            refine va_get (D := D) (ci := 5) (v := .ref (a 13)) (C := RX2) (T := TX2) (N := 17) hx hb hts hinX2 hown hK hP 0 rfl rfl 15 (by decide) (hts (.fieldLink RX2 53 "LoanCasesModel" "vans" "[I") (by decide +kernel)) (fun _ h9 => h9) rfl dX2_told__48 ?_
            refine lv_bipush (v := 8) hx hb dX2_told__51 (by decide) ?_
            refine lv_iload_n hx hb dX2_told__53 rfl (lv_at hl 1 rfl) ?_
            refine lv_imul hx hb dX2_told__54 ?_
            refine lv_iload hx hb dX2_told__55 (lv_at hl 4 rfl) ?_
            refine lv_iadd hx hb dX2_told__57 ?_
            refine va_iald (f := S0 13) hx hb hK hP 13 0 rfl rfl (m8_in hl8 (vp_in_nI (by omega) (by omega))) dX2_told__58 ?_
            refine lv_if_ge (tgt := 66) hx hb dX2_told__59 (by decide) (fun c_9 => ?_) (fun c_9 => ?_)
            · refine lv_iconst (v := 1) hx hb dX2_told__66 (by decide) ?_
              refine lv_iadd hx hb dX2_told__67 ?_
              refine lv_istore_n (lv' := [(3, .int (x3 + 1)), (0, .ref (a 0)), (1, .int l_), (2, .int w), (4, .int (nI i))]) hx hb dX2_told__68 rfl hl (by decide) rfl (fun ls hl => ?_)
              obtain ⟨x_10, ex_10⟩ : ∃ y : Int32, y = (nI i) + (1) := ⟨_, rfl⟩
              refine lv_iinc (v := x_10) (lv' := [(4, .int x_10), (3, .int (x3 + 1)), (0, .ref (a 0)), (1, .int l_), (2, .int w)]) hx hb dX2_told__69 hl (k := 4) rfl (by rw [ex_10]; rfl) (by decide) rfl (fun ls hl => ?_)
              refine lv_goto (tgt := 35) hx hb dX2_told__72 (by decide) ?_
              rw [show x_10 = nI (i + 1) from (ex_10).trans (nI_1 i)] at hl
              exact ih35 (i + 1) (x3 + 1) (by omega) (by omega) (by rw [hv, mvn, cif_t c_9]) ls (lv_sub hl [2, 3, 4, 1, 0] rfl)
            · refine lv_iconst (v := 0) hx hb dX2_told__62 (by decide) ?_
              refine lv_goto (tgt := 67) hx hb dX2_told__63 (by decide) ?_
              refine lv_iadd hx hb dX2_told__67 ?_
              refine lv_istore_n (lv' := [(3, .int (x3 + 0)), (0, .ref (a 0)), (1, .int l_), (2, .int w), (4, .int (nI i))]) hx hb dX2_told__68 rfl hl (by decide) rfl (fun ls hl => ?_)
              obtain ⟨x_11, ex_11⟩ : ∃ y : Int32, y = (nI i) + (1) := ⟨_, rfl⟩
              refine lv_iinc (v := x_11) (lv' := [(4, .int x_11), (3, .int (x3 + 0)), (0, .ref (a 0)), (1, .int l_), (2, .int w)]) hx hb dX2_told__69 hl (k := 4) rfl (by rw [ex_11]; rfl) (by decide) rfl (fun ls hl => ?_)
              refine lv_goto (tgt := 35) hx hb dX2_told__72 (by decide) ?_
              rw [show x_11 = nI (i + 1) from (ex_11).trans (nI_1 i)] at hl
              exact ih35 (i + 1) (x3 + 0) (by omega) (by omega) (by rw [hv, mvn, cif_f c_9]) ls (lv_sub hl [2, 3, 4, 1, 0] rfl)
      exact loop35 (n9 + 1) 0 0 (by omega) (by omega) rfl ls (lv_sub hl [2, 3, 4, 1, 0] rfl)
    · refine lv_if_ne (tgt := 30) hx hb dX2_told__24 (by decide) (fun c_12 => absurd c_12 (by decide)) (fun c_12 => ?_)
      refine lv_bipush (v := -2) hx hb dX2_told__27 (by decide) ?_
      exact W.iret (v := (-2)) hx hb hr (fun t9 ht hW => ⟨⟨(-2), (S0, G), rfl, (by rw [← hS0]; exact ⟨by simp only [ms_told, cif_t h_1, cif_f h_3, sU_s], rfl⟩), by rw [ht]; exact hP, va_K.moved hW.alike hK, by rw [hAe]; exact hD⟩, hS.F ht⟩) hS.2.2 dX2_told__29
  · refine lv_if_ne (tgt := 15) hx hb dX2_told__10 (by decide) (fun c_13 => absurd c_13 (by decide)) (fun c_13 => ?_)
    refine lv_iconst (v := -1) hx hb dX2_told__13 (by decide) ?_
    exact W.iret (v := (-1)) hx hb hr (fun t9 ht hW => ⟨⟨(-1), (S0, G), rfl, (by rw [← hS0]; exact ⟨by simp only [ms_told, cif_f h_1, sU_s], rfl⟩), by rw [ht]; exact hP, va_K.moved hW.alike hK, by rw [hAe]; exact hD⟩, hS.F ht⟩) hS.2.2 dX2_told__14

set_option maxHeartbeats 4000000 in
set_option maxRecDepth 100000 in
theorem c_X2_count (l : Launch) (D : va_G) (kI kJ kL : ClassId) (a : Nat → Nat) (S : Nat → Nat → Int32) (G : Nat → Int64) (sz : Nat) (w : Int32) (n : Nat) (hn6 : S 6 0 = nI n) (hn : n ≤ 110) : Met l yX2_count wsX2_count ({ frames := 1, cells := 0, slots := 0, locals := 25 }) (q_wP D (xTY kI kJ kL) (mW kI kJ a S G) sz [.ref (a 0), .int w]) (va_Qi (fun r (u : (Nat → Nat → Int32) × (Nat → Int64)) => r = (ms_count (sU S 16 0 0) n w) ∧ u = ((sU S 16 0 0), G)) (q_wB D (xTY kI kJ kL) (mW kI kJ a S G) sz (fun u : (Nat → Nat → Int32) × (Nat → Int64) => mW kI kJ a u.1 u.2)) (va_A (mW kI kJ a S G) sz)) 0 0 (va_A (mW kI kJ a S G) sz) := by
  refine Met.ofW (cc := cX2_count) (maxL := 5) (ret := (some .int)) (by decide) rfl ?_
  intro p e s m args below meth c s₁ Bd hml hv
  obtain ⟨rfl, hsz, hP, hK, hD0, hN⟩ := hv
  have hx := Bd.exec
  have hb := Bd.bytes
  have hr := Bd.returns
  have hts := atoms_spec (ws := wsX2_count) Bd.pre
  have hown : s.vm.findClass RX2 = some m.cls := findClass_of_methodNamed Bd.named
  have hlocks := Bd.notSynchronized
  subst hsz
  have hD := hD0.self (sz := s.heap.size)
  generalize hAe : va_A (mW kI kJ a S G) s.heap.size = A at hD ⊢
  have hA : ∀ q : Nat, s.heap.size ≤ q → A q := fun q h => by rw [← hAe]; exact Or.inr h
  have hS : va_S A s.heap s.heap [] := va_S.rf
  have hl := lv_entry ([.ref (a 0), .int w]) (n := 5) (Nat.le_of_ble_eq_true rfl)
  rw [lg_entry_eq]
  generalize (lg_sl ([.ref (a 0), .int w]) ++ List.replicate (5 - (lg_sl ([.ref (a 0), .int w])).length) Slot.unset).toArray = ls at hl ⊢
  have hl : lv_has ls 5 [(0, .ref (a 0)), (1, .int w)] := hl
  have hinX2 : ∀ w ∈ u_ws RX2 TX2 17, w ∈ wsX2_count := by decide +kernel
  refine lv_aload_n hx hb dX2_count_0 rfl (lv_at hl 0 rfl) ?_
  refine lv_iconst (v := 0) hx hb dX2_count_1 (by decide) ?_
  refine va_put (D := D) (ci := 5) (v := .int 0) (ty := .int) (C := RX2) (T := TX2) (N := 17) hx hb hts hinX2 tyX2 tyX2_ok nmX2 hown hK hP hD hS 0 rfl rfl 0 (by decide) (hts (.fieldLink RX2 59 "LoanCasesModel" "fault" "I") (by decide +kernel)) (fun _ h9 => h9) rfl (by decide +kernel) rfl rfl (Nat.le_of_ble_eq_true rfl) dX2_count_2 (fun H locs hP hD hS => ?_)
  have hP : va_P D vwCl (mW kI kJ a (sU S 16 0 0) G) H := hP
  have hD : va_D A (mW kI kJ a (sU S 16 0 0) G) := hD
  obtain ⟨S0, hS0⟩ : ∃ S0, S0 = sU S 16 0 0 := ⟨_, rfl⟩
  rw [← hS0] at hP hD
  have hn6 : S0 6 0 = nI n := by rw [hS0]; exact hn6
  refine lv_iconst (v := 0) hx hb dX2_count_5 (by decide) ?_
  refine lv_istore_n (lv' := [(2, .int 0), (0, .ref (a 0)), (1, .int w)]) hx hb dX2_count_6 rfl hl (by decide) rfl (fun ls hl => ?_)
  refine lv_iconst (v := 0) hx hb dX2_count_7 (by decide) ?_
  refine lv_istore_n (lv' := [(3, .int 0), (2, .int 0), (0, .ref (a 0)), (1, .int w)]) hx hb dX2_count_8 rfl hl (by decide) rfl (fun ls hl => ?_)
  refine lv_iconst (v := 0) hx hb dX2_count_9 (by decide) ?_
  refine lv_istore (lv' := [(4, .int 0), (3, .int 0), (2, .int 0), (0, .ref (a 0)), (1, .int w)]) hx hb dX2_count_10 hl (by decide) rfl (fun ls hl => ?_)
  have loop12 : ∀ (n12 : Nat) (i : Nat) (x2 x3 : Int32), (n + 1 ≤ i + n12) → (i ≤ n) → (x2 = mcn S0 i) → (x3 = mcf S0 i) → ∀ (ls : Array Slot), lv_has ls 5 [(0, .ref (a 0)), (1, .int w), (2, .int x2), (3, .int x3), (4, .int (nI i))] → W p l e ({ frames := 1, cells := 0, slots := 0, locals := 25 }) s m ([.ref (a 0), .int w] : List Value).toArray below meth c H locs 0 0 (MQ below (va_Qi (fun r (u : (Nat → Nat → Int32) × (Nat → Int64)) => r = (ms_count (sU S 16 0 0) n w) ∧ u = ((sU S 16 0 0), G)) (q_wB D (xTY kI kJ kL) (mW kI kJ a S G) s.heap.size (fun u : (Nat → Nat → Int32) × (Nat → Int64) => mW kI kJ a u.1 u.2)) A) ([.ref (a 0), .int w] : List Value).toArray s 0 0 A) (F0 m 12 ls []) := by
    intro n12
    induction n12 with
    | zero =>
      intro i x2 x3 hf hi hv hv2
      exact absurd hf (by omega)
    | succ n12 ih12 =>
      intro i x2 x3 hf hi hv hv2 ls hl
      refine lv_iload hx hb dX2_count_12 (lv_at hl 4 rfl) ?_
      refine lv_aload_n hx hb dX2_count_14 rfl (lv_at hl 0 rfl) ?_
      refine va_get (D := D) (ci := 5) (v := .int (S0 6 0)) (C := RX2) (T := TX2) (N := 17) hx hb hts hinX2 hown hK hP 0 rfl rfl 1 (by decide) (hts (.fieldLink RX2 63 "LoanCasesModel" "things" "I") (by decide +kernel)) (fun _ h9 => h9) rfl dX2_count_15 ?_
      refine lv_icmp_ge (tgt := 76) hx hb dX2_count_18 (by decide) (fun c_1 => ?_) (fun c_1 => ?_)
      · rw [hn6] at c_1
        have hi2 : i = n := by
          have h7 : n ≤ i := (nI_leI (a := n) (b := i) (by omega) (by omega)).mp c_1
          omega
        refine lv_iload_n hx hb dX2_count_76 rfl (lv_at hl 1 rfl) ?_
        rcases (show w.toInt < 0 ∨ 3 < w.toInt ∨ w.toInt = 0 ∨ w.toInt = 1 ∨ w.toInt = 2 ∨ w.toInt = 3 by omega) with c_2 | c_2 | c_2 | c_2 | c_2 | c_2
        · refine lv_tableOut (tgt := 122) hx hb dX2_count_77 (Or.inl c_2) (by decide) ?_
          refine lv_iload_n hx hb dX2_count_122 rfl (lv_at hl 1 rfl) ?_
          refine lv_i2l hx hb dX2_count_123 rfl ?_
          refine lv_ldc2 hx hb hown (hts (.constantLong RX2 77 (4)) (by decide +kernel)) dX2_count_124 ?_
          refine lv_ldc2 hx hb hown (hts (.constantLong RX2 141 (8)) (by decide +kernel)) dX2_count_127 ?_
          refine vp_callSi (W.runS (As := [.long (w.toInt64), .long 4, .long 8]) (rest := []) ⟨hx, hb, hml, hown, hts⟩ (c_X2_in l D kI kJ kL (w.toInt64) 4 8) (va_cwS 3 hts gX2_count_X2_in rfl rfl rfl (by decide +kernel) ⟨Nat.le_of_ble_eq_true rfl, Nat.le_of_ble_eq_true rfl⟩) (q_rS0 hK hN) rfl rfl hl.1 rfl (lv_room (Nat.le_of_ble_eq_true rfl)) dX2_count_130 ⟨Nat.le_of_ble_eq_true rfl, Nat.le_of_ble_eq_true rfl⟩) (fun r_h_3 h_3 => ?_)
          rcases h_3 with ⟨rfl, h_3⟩ | ⟨rfl, h_3⟩
          · refine lv_if_eq (tgt := 147) hx hb dX2_count_133 (by decide) (fun c_4 => absurd c_4 (by decide)) (fun c_4 => ?_)
            refine lv_aload_n hx hb dX2_count_136 rfl (lv_at hl 0 rfl) ?_
            refine va_get (D := D) (ci := 5) (v := .ref (a 14)) (C := RX2) (T := TX2) (N := 17) hx hb hts hinX2 hown hK hP 0 rfl rfl 16 (by decide) (hts (.fieldLink RX2 56 "LoanCasesModel" "findings" "[I") (by decide +kernel)) (fun _ h9 => h9) rfl dX2_count_137 ?_
            refine lv_iload_n hx hb dX2_count_140 rfl (lv_at hl 1 rfl) ?_
            refine lv_iconst (v := 3) hx hb dX2_count_141 (by decide) ?_
            refine lv_isub hx hb dX2_count_142 ?_
            refine va_iald (f := S0 5) hx hb hK hP 14 0 rfl rfl (mIn_f6 h_3) dX2_count_143 ?_
            refine lv_goto (tgt := 149) hx hb dX2_count_144 (by decide) ?_
            exact W.iret (v := (S0 5 (w - 3).toNatClampNeg)) hx hb hr (fun t9 ht hW => ⟨⟨(S0 5 (w - 3).toNatClampNeg), (S0, G), rfl, (by rw [← hS0]; exact ⟨by simp [ms_count, cif_t h_3, show ¬ w = 0 from fun h9 => by rw [h9] at c_2; exact absurd c_2 (by decide), show ¬ w = 1 from fun h9 => by rw [h9] at c_2; exact absurd c_2 (by decide), show ¬ w = 2 from fun h9 => by rw [h9] at c_2; exact absurd c_2 (by decide), show ¬ w = 3 from fun h9 => by rw [h9] at c_2; exact absurd c_2 (by decide)], rfl⟩), by rw [ht]; exact hP, va_K.moved hW.alike hK, by rw [hAe]; exact hD⟩, hS.F ht⟩) hS.2.2 dX2_count_149
          · refine lv_if_eq (tgt := 147) hx hb dX2_count_133 (by decide) (fun c_5 => ?_) (fun c_5 => absurd c_5 (by decide))
            refine lv_bipush (v := -2) hx hb dX2_count_147 (by decide) ?_
            exact W.iret (v := (-2)) hx hb hr (fun t9 ht hW => ⟨⟨(-2), (S0, G), rfl, (by rw [← hS0]; exact ⟨by simp [ms_count, cif_f h_3, show ¬ w = 0 from fun h9 => by rw [h9] at c_2; exact absurd c_2 (by decide), show ¬ w = 1 from fun h9 => by rw [h9] at c_2; exact absurd c_2 (by decide), show ¬ w = 2 from fun h9 => by rw [h9] at c_2; exact absurd c_2 (by decide), show ¬ w = 3 from fun h9 => by rw [h9] at c_2; exact absurd c_2 (by decide)], rfl⟩), by rw [ht]; exact hP, va_K.moved hW.alike hK, by rw [hAe]; exact hD⟩, hS.F ht⟩) hS.2.2 dX2_count_149
        · refine lv_tableOut (tgt := 122) hx hb dX2_count_77 (Or.inr c_2) (by decide) ?_
          refine lv_iload_n hx hb dX2_count_122 rfl (lv_at hl 1 rfl) ?_
          refine lv_i2l hx hb dX2_count_123 rfl ?_
          refine lv_ldc2 hx hb hown (hts (.constantLong RX2 77 (4)) (by decide +kernel)) dX2_count_124 ?_
          refine lv_ldc2 hx hb hown (hts (.constantLong RX2 141 (8)) (by decide +kernel)) dX2_count_127 ?_
          refine vp_callSi (W.runS (As := [.long (w.toInt64), .long 4, .long 8]) (rest := []) ⟨hx, hb, hml, hown, hts⟩ (c_X2_in l D kI kJ kL (w.toInt64) 4 8) (va_cwS 3 hts gX2_count_X2_in rfl rfl rfl (by decide +kernel) ⟨Nat.le_of_ble_eq_true rfl, Nat.le_of_ble_eq_true rfl⟩) (q_rS0 hK hN) rfl rfl hl.1 rfl (lv_room (Nat.le_of_ble_eq_true rfl)) dX2_count_130 ⟨Nat.le_of_ble_eq_true rfl, Nat.le_of_ble_eq_true rfl⟩) (fun r_h_6 h_6 => ?_)
          rcases h_6 with ⟨rfl, h_6⟩ | ⟨rfl, h_6⟩
          · refine lv_if_eq (tgt := 147) hx hb dX2_count_133 (by decide) (fun c_7 => absurd c_7 (by decide)) (fun c_7 => ?_)
            refine lv_aload_n hx hb dX2_count_136 rfl (lv_at hl 0 rfl) ?_
            refine va_get (D := D) (ci := 5) (v := .ref (a 14)) (C := RX2) (T := TX2) (N := 17) hx hb hts hinX2 hown hK hP 0 rfl rfl 16 (by decide) (hts (.fieldLink RX2 56 "LoanCasesModel" "findings" "[I") (by decide +kernel)) (fun _ h9 => h9) rfl dX2_count_137 ?_
            refine lv_iload_n hx hb dX2_count_140 rfl (lv_at hl 1 rfl) ?_
            refine lv_iconst (v := 3) hx hb dX2_count_141 (by decide) ?_
            refine lv_isub hx hb dX2_count_142 ?_
            refine va_iald (f := S0 5) hx hb hK hP 14 0 rfl rfl (mIn_f6 h_6) dX2_count_143 ?_
            refine lv_goto (tgt := 149) hx hb dX2_count_144 (by decide) ?_
            exact W.iret (v := (S0 5 (w - 3).toNatClampNeg)) hx hb hr (fun t9 ht hW => ⟨⟨(S0 5 (w - 3).toNatClampNeg), (S0, G), rfl, (by rw [← hS0]; exact ⟨by simp [ms_count, cif_t h_6, show ¬ w = 0 from fun h9 => by rw [h9] at c_2; exact absurd c_2 (by decide), show ¬ w = 1 from fun h9 => by rw [h9] at c_2; exact absurd c_2 (by decide), show ¬ w = 2 from fun h9 => by rw [h9] at c_2; exact absurd c_2 (by decide), show ¬ w = 3 from fun h9 => by rw [h9] at c_2; exact absurd c_2 (by decide)], rfl⟩), by rw [ht]; exact hP, va_K.moved hW.alike hK, by rw [hAe]; exact hD⟩, hS.F ht⟩) hS.2.2 dX2_count_149
          · refine lv_if_eq (tgt := 147) hx hb dX2_count_133 (by decide) (fun c_8 => ?_) (fun c_8 => absurd c_8 (by decide))
            refine lv_bipush (v := -2) hx hb dX2_count_147 (by decide) ?_
            exact W.iret (v := (-2)) hx hb hr (fun t9 ht hW => ⟨⟨(-2), (S0, G), rfl, (by rw [← hS0]; exact ⟨by simp [ms_count, cif_f h_6, show ¬ w = 0 from fun h9 => by rw [h9] at c_2; exact absurd c_2 (by decide), show ¬ w = 1 from fun h9 => by rw [h9] at c_2; exact absurd c_2 (by decide), show ¬ w = 2 from fun h9 => by rw [h9] at c_2; exact absurd c_2 (by decide), show ¬ w = 3 from fun h9 => by rw [h9] at c_2; exact absurd c_2 (by decide)], rfl⟩), by rw [ht]; exact hP, va_K.moved hW.alike hK, by rw [hAe]; exact hD⟩, hS.F ht⟩) hS.2.2 dX2_count_149
        · refine lv_tableIn (tgt := 108) hx hb dX2_count_77 (by omega) (by omega) (by rw [c_2]; rfl) (by decide) ?_
          have c_2 : w = 0 := Int32.toInt_inj.mp c_2
          refine lv_aload_n hx hb dX2_count_108 rfl (lv_at hl 0 rfl) ?_
          refine va_get (D := D) (ci := 5) (v := .int (S0 6 0)) (C := RX2) (T := TX2) (N := 17) hx hb hts hinX2 hown hK hP 0 rfl rfl 1 (by decide) (hts (.fieldLink RX2 63 "LoanCasesModel" "things" "I") (by decide +kernel)) (fun _ h9 => h9) rfl dX2_count_109 ?_
          exact W.iret (v := (S0 6 0)) hx hb hr (fun t9 ht hW => ⟨⟨(S0 6 0), (S0, G), rfl, (by rw [← hS0]; exact ⟨by simp [ms_count, c_2, hv, hv2, hi2], rfl⟩), by rw [ht]; exact hP, va_K.moved hW.alike hK, by rw [hAe]; exact hD⟩, hS.F ht⟩) hS.2.2 dX2_count_112
        · refine lv_tableIn (tgt := 113) hx hb dX2_count_77 (by omega) (by omega) (by rw [c_2]; rfl) (by decide) ?_
          have c_2 : w = 1 := Int32.toInt_inj.mp c_2
          refine lv_iload_n hx hb dX2_count_113 rfl (lv_at hl 2 rfl) ?_
          exact W.iret (v := x2) hx hb hr (fun t9 ht hW => ⟨⟨x2, (S0, G), rfl, (by rw [← hS0]; exact ⟨by simp [ms_count, c_2, hv, hv2, hi2], rfl⟩), by rw [ht]; exact hP, va_K.moved hW.alike hK, by rw [hAe]; exact hD⟩, hS.F ht⟩) hS.2.2 dX2_count_114
        · refine lv_tableIn (tgt := 115) hx hb dX2_count_77 (by omega) (by omega) (by rw [c_2]; rfl) (by decide) ?_
          have c_2 : w = 2 := Int32.toInt_inj.mp c_2
          refine lv_iload_n hx hb dX2_count_115 rfl (lv_at hl 3 rfl) ?_
          exact W.iret (v := x3) hx hb hr (fun t9 ht hW => ⟨⟨x3, (S0, G), rfl, (by rw [← hS0]; exact ⟨by simp [ms_count, c_2, hv, hv2, hi2], rfl⟩), by rw [ht]; exact hP, va_K.moved hW.alike hK, by rw [hAe]; exact hD⟩, hS.F ht⟩) hS.2.2 dX2_count_116
        · refine lv_tableIn (tgt := 117) hx hb dX2_count_77 (by omega) (by omega) (by rw [c_2]; rfl) (by decide) ?_
          have c_2 : w = 3 := Int32.toInt_inj.mp c_2
          refine lv_aload_n hx hb dX2_count_117 rfl (lv_at hl 0 rfl) ?_
          refine va_get (D := D) (ci := 5) (v := .int (S0 7 0)) (C := RX2) (T := TX2) (N := 17) hx hb hts hinX2 hown hK hP 0 rfl rfl 9 (by decide) (hts (.fieldLink RX2 74 "LoanCasesModel" "loans" "I") (by decide +kernel)) (fun _ h9 => h9) rfl dX2_count_118 ?_
          exact W.iret (v := (S0 7 0)) hx hb hr (fun t9 ht hW => ⟨⟨(S0 7 0), (S0, G), rfl, (by rw [← hS0]; exact ⟨by simp [ms_count, c_2, hv, hv2, hi2], rfl⟩), by rw [ht]; exact hP, va_K.moved hW.alike hK, by rw [hAe]; exact hD⟩, hS.F ht⟩) hS.2.2 dX2_count_121
      · rw [hn6] at c_1
        have hi2 : i < n := Nat.lt_of_not_le (fun h8 => c_1 ((nI_leI (a := n) (b := i) (by omega) (by omega)).mpr h8))
        have hin : vp_in (nI i) 110 := vp_in_nI (by omega) (by omega)
        refine lv_iload_n hx hb dX2_count_21 rfl (lv_at hl 2 rfl) ?_
        refine lv_aload_n hx hb dX2_count_22 rfl (lv_at hl 0 rfl) ?_
        refine va_get (D := D) (ci := 5) (v := .ref (a 1)) (C := RX2) (T := TX2) (N := 17) hx hb hts hinX2 hown hK hP 0 rfl rfl 2 (by decide) (hts (.fieldLink RX2 7 "LoanCasesModel" "forms" "[I") (by decide +kernel)) (fun _ h9 => h9) rfl dX2_count_23 ?_
        refine lv_iload hx hb dX2_count_26 (lv_at hl 4 rfl) ?_
        refine va_iald (f := S0 0) hx hb hK hP 1 0 rfl rfl hin dX2_count_28 ?_
        refine lv_bipush (v := 18) hx hb dX2_count_29 (by decide) ?_
        refine lv_icmp_ne (tgt := 38) hx hb dX2_count_31 (by decide) (fun c_9 => ?_) (fun c_9 => ?_)
        · refine lv_iconst (v := 0) hx hb dX2_count_38 (by decide) ?_
          refine lv_iadd hx hb dX2_count_39 ?_
          refine lv_istore_n (lv' := [(2, .int (x2 + 0)), (0, .ref (a 0)), (1, .int w), (3, .int x3), (4, .int (nI i))]) hx hb dX2_count_40 rfl hl (by decide) rfl (fun ls hl => ?_)
          refine lv_iload_n hx hb dX2_count_41 rfl (lv_at hl 3 rfl) ?_
          refine lv_aload_n hx hb dX2_count_42 rfl (lv_at hl 1 rfl) ?_
          refine va_get (D := D) (ci := 5) (v := .ref (a 1)) (C := RX2) (T := TX2) (N := 17) hx hb hts hinX2 hown hK hP 0 rfl rfl 2 (by decide) (hts (.fieldLink RX2 7 "LoanCasesModel" "forms" "[I") (by decide +kernel)) (fun _ h9 => h9) rfl dX2_count_43 ?_
          refine lv_iload hx hb dX2_count_46 (lv_at hl 4 rfl) ?_
          refine va_iald (f := S0 0) hx hb hK hP 1 0 rfl rfl hin dX2_count_48 ?_
          refine lv_bipush (v := 18) hx hb dX2_count_49 (by decide) ?_
          refine lv_icmp_ne (tgt := 67) hx hb dX2_count_51 (by decide) (fun c_10 => ?_) (fun c_10 => absurd c_10 c_9)
          refine lv_iconst (v := 0) hx hb dX2_count_67 (by decide) ?_
          refine lv_iadd hx hb dX2_count_68 ?_
          refine lv_istore_n (lv' := [(3, .int (x3 + 0)), (2, .int (x2 + 0)), (0, .ref (a 0)), (1, .int w), (4, .int (nI i))]) hx hb dX2_count_69 rfl hl (by decide) rfl (fun ls hl => ?_)
          obtain ⟨x_11, ex_11⟩ : ∃ y : Int32, y = (nI i) + (1) := ⟨_, rfl⟩
          refine lv_iinc (v := x_11) (lv' := [(4, .int x_11), (3, .int (x3 + 0)), (2, .int (x2 + 0)), (0, .ref (a 0)), (1, .int w)]) hx hb dX2_count_70 hl (k := 4) rfl (by rw [ex_11]; rfl) (by decide) rfl (fun ls hl => ?_)
          refine lv_goto (tgt := 12) hx hb dX2_count_73 (by decide) ?_
          rw [show x_11 = nI (i + 1) from (ex_11).trans (nI_1 i)] at hl
          exact ih12 (i + 1) (x2 + 0) (x3 + 0) (by omega) (by omega) (by rw [hv, mcn, cif_f c_9]) (by rw [hv2, mcf, cif_f c_9]) ls (lv_sub hl [3, 4, 2, 1, 0] rfl)
        · refine lv_iconst (v := 1) hx hb dX2_count_34 (by decide) ?_
          refine lv_goto (tgt := 39) hx hb dX2_count_35 (by decide) ?_
          refine lv_iadd hx hb dX2_count_39 ?_
          refine lv_istore_n (lv' := [(2, .int (x2 + 1)), (0, .ref (a 0)), (1, .int w), (3, .int x3), (4, .int (nI i))]) hx hb dX2_count_40 rfl hl (by decide) rfl (fun ls hl => ?_)
          refine lv_iload_n hx hb dX2_count_41 rfl (lv_at hl 3 rfl) ?_
          refine lv_aload_n hx hb dX2_count_42 rfl (lv_at hl 1 rfl) ?_
          refine va_get (D := D) (ci := 5) (v := .ref (a 1)) (C := RX2) (T := TX2) (N := 17) hx hb hts hinX2 hown hK hP 0 rfl rfl 2 (by decide) (hts (.fieldLink RX2 7 "LoanCasesModel" "forms" "[I") (by decide +kernel)) (fun _ h9 => h9) rfl dX2_count_43 ?_
          refine lv_iload hx hb dX2_count_46 (lv_at hl 4 rfl) ?_
          refine va_iald (f := S0 0) hx hb hK hP 1 0 rfl rfl hin dX2_count_48 ?_
          refine lv_bipush (v := 18) hx hb dX2_count_49 (by decide) ?_
          refine lv_icmp_ne (tgt := 67) hx hb dX2_count_51 (by decide) (fun c_12 => absurd c_9 c_12) (fun c_12 => ?_)
          refine lv_aload_n hx hb dX2_count_54 rfl (lv_at hl 1 rfl) ?_
          refine lv_iload hx hb dX2_count_55 (lv_at hl 4 rfl) ?_
          refine vp_callSi (W.runV (As := [.int (nI i)]) (rest := [.int x3]) ⟨hx, hb, hml, hown, hts⟩ (c_X2_heldBy l D kI kJ kL a S0 G (nI i) hin) (cwV 1 hts gX2_count_X2_heldBy rfl rfl rfl (by decide +kernel) ⟨Nat.le_of_ble_eq_true rfl, Nat.le_of_ble_eq_true rfl⟩) (q_rV (w2 := []) hK hN (by rw [List.append_nil]; exact hP) (va_recv hK hP (ci := 5) (q0 := 0) rfl rfl)) rfl rfl hl.1 rfl (lv_room (Nat.le_of_ble_eq_true rfl)) dX2_count_57 ⟨Nat.le_of_ble_eq_true rfl, Nat.le_of_ble_eq_true rfl⟩) (fun r_14 h_13 => ?_)
          subst h_13
          refine lv_if_lt (tgt := 67) hx hb dX2_count_60 (by decide) (fun c_15 => ?_) (fun c_15 => ?_)
          · refine lv_iconst (v := 0) hx hb dX2_count_67 (by decide) ?_
            refine lv_iadd hx hb dX2_count_68 ?_
            refine lv_istore_n (lv' := [(3, .int (x3 + 0)), (2, .int (x2 + 1)), (0, .ref (a 0)), (1, .int w), (4, .int (nI i))]) hx hb dX2_count_69 rfl hl (by decide) rfl (fun ls hl => ?_)
            obtain ⟨x_16, ex_16⟩ : ∃ y : Int32, y = (nI i) + (1) := ⟨_, rfl⟩
            refine lv_iinc (v := x_16) (lv' := [(4, .int x_16), (3, .int (x3 + 0)), (2, .int (x2 + 1)), (0, .ref (a 0)), (1, .int w)]) hx hb dX2_count_70 hl (k := 4) rfl (by rw [ex_16]; rfl) (by decide) rfl (fun ls hl => ?_)
            refine lv_goto (tgt := 12) hx hb dX2_count_73 (by decide) ?_
            rw [show x_16 = nI (i + 1) from (ex_16).trans (nI_1 i)] at hl
            exact ih12 (i + 1) (x2 + 1) (x3 + 0) (by omega) (by omega) (by rw [hv, mcn, cif_t c_9]) (by rw [hv2, mcf, cif_t c_9, cif_t c_15]) ls (lv_sub hl [3, 4, 2, 1, 0] rfl)
          · refine lv_iconst (v := 1) hx hb dX2_count_63 (by decide) ?_
            refine lv_goto (tgt := 68) hx hb dX2_count_64 (by decide) ?_
            refine lv_iadd hx hb dX2_count_68 ?_
            refine lv_istore_n (lv' := [(3, .int (x3 + 1)), (2, .int (x2 + 1)), (0, .ref (a 0)), (1, .int w), (4, .int (nI i))]) hx hb dX2_count_69 rfl hl (by decide) rfl (fun ls hl => ?_)
            obtain ⟨x_17, ex_17⟩ : ∃ y : Int32, y = (nI i) + (1) := ⟨_, rfl⟩
            refine lv_iinc (v := x_17) (lv' := [(4, .int x_17), (3, .int (x3 + 1)), (2, .int (x2 + 1)), (0, .ref (a 0)), (1, .int w)]) hx hb dX2_count_70 hl (k := 4) rfl (by rw [ex_17]; rfl) (by decide) rfl (fun ls hl => ?_)
            refine lv_goto (tgt := 12) hx hb dX2_count_73 (by decide) ?_
            rw [show x_17 = nI (i + 1) from (ex_17).trans (nI_1 i)] at hl
            exact ih12 (i + 1) (x2 + 1) (x3 + 1) (by omega) (by omega) (by rw [hv, mcn, cif_t c_9]) (by rw [hv2, mcf, cif_t c_9, cif_f c_15]) ls (lv_sub hl [3, 4, 2, 1, 0] rfl)
  exact loop12 (n + 1) 0 0 0 (by omega) (by omega) rfl rfl ls (lv_sub hl [3, 4, 2, 1, 0] rfl)

set_option maxHeartbeats 4000000 in
set_option maxRecDepth 100000 in
theorem c_X2_clear (l : Launch) (D : va_G) (kI kJ kL : ClassId) (a : Nat → Nat) (S : Nat → Nat → Int32) (G : Nat → Int64) (sz : Nat) : Met l yX2_clear wsX2_clear ({ frames := 0, cells := 0, slots := 0, locals := 0 }) (q_wP D (xTY kI kJ kL) (mW kI kJ a S G) sz [.ref (a 0)]) (va_Qi (fun r (u : (Nat → Nat → Int32) × (Nat → Int64)) => r = (sU S 16 0 0) 6 0 ∧ u = (mcl (sU S 16 0 0) 6, G)) (q_wB D (xTY kI kJ kL) (mW kI kJ a S G) sz (fun u : (Nat → Nat → Int32) × (Nat → Int64) => mW kI kJ a u.1 u.2)) (va_A (mW kI kJ a S G) sz)) 0 0 (va_A (mW kI kJ a S G) sz) := by
  refine Met.ofW (cc := cX2_clear) (maxL := 3) (ret := (some .int)) (by decide) rfl ?_
  intro p e s m args below meth c s₁ Bd hml hv
  obtain ⟨rfl, hsz, hP, hK, hD0, hN⟩ := hv
  have hx := Bd.exec
  have hb := Bd.bytes
  have hr := Bd.returns
  have hts := atoms_spec (ws := wsX2_clear) Bd.pre
  have hown : s.vm.findClass RX2 = some m.cls := findClass_of_methodNamed Bd.named
  have hlocks := Bd.notSynchronized
  subst hsz
  have hD := hD0.self (sz := s.heap.size)
  generalize hAe : va_A (mW kI kJ a S G) s.heap.size = A at hD ⊢
  have hA : ∀ q : Nat, s.heap.size ≤ q → A q := fun q h => by rw [← hAe]; exact Or.inr h
  have hS : va_S A s.heap s.heap [] := va_S.rf
  have hl := lv_entry ([.ref (a 0)]) (n := 3) (Nat.le_of_ble_eq_true rfl)
  rw [lg_entry_eq]
  generalize (lg_sl ([.ref (a 0)]) ++ List.replicate (3 - (lg_sl ([.ref (a 0)])).length) Slot.unset).toArray = ls at hl ⊢
  have hl : lv_has ls 3 [(0, .ref (a 0))] := hl
  have hinX2 : ∀ w ∈ u_ws RX2 TX2 17, w ∈ wsX2_clear := by decide +kernel
  refine lv_aload_n hx hb dX2_clear_0 rfl (lv_at hl 0 rfl) ?_
  refine lv_iconst (v := 0) hx hb dX2_clear_1 (by decide) ?_
  refine va_put (D := D) (ci := 5) (v := .int 0) (ty := .int) (C := RX2) (T := TX2) (N := 17) hx hb hts hinX2 tyX2 tyX2_ok nmX2 hown hK hP hD hS 0 rfl rfl 0 (by decide) (hts (.fieldLink RX2 59 "LoanCasesModel" "fault" "I") (by decide +kernel)) (fun _ h9 => h9) rfl (by decide +kernel) rfl rfl (Nat.le_of_ble_eq_true rfl) dX2_clear_2 (fun H locs hP hD hS => ?_)
  have hP : va_P D vwCl (mW kI kJ a (sU S 16 0 0) G) H := hP
  have hD : va_D A (mW kI kJ a (sU S 16 0 0) G) := hD
  obtain ⟨S0, hS0⟩ : ∃ S0, S0 = sU S 16 0 0 := ⟨_, rfl⟩
  rw [← hS0] at hP hD
  refine lv_aload_n hx hb dX2_clear_5 rfl (lv_at hl 0 rfl) ?_
  refine va_get (D := D) (ci := 5) (v := .int (S0 6 0)) (C := RX2) (T := TX2) (N := 17) hx hb hts hinX2 hown hK hP 0 rfl rfl 1 (by decide) (hts (.fieldLink RX2 63 "LoanCasesModel" "things" "I") (by decide +kernel)) (fun _ h9 => h9) rfl dX2_clear_6 ?_
  refine lv_istore_n (lv' := [(1, .int (S0 6 0)), (0, .ref (a 0))]) hx hb dX2_clear_9 rfl hl (by decide) rfl (fun ls hl => ?_)
  refine lv_aload_n hx hb dX2_clear_10 rfl (lv_at hl 1 rfl) ?_
  refine lv_iconst (v := 0) hx hb dX2_clear_11 (by decide) ?_
  refine va_put (D := D) (ci := 5) (v := .int 0) (ty := .int) (C := RX2) (T := TX2) (N := 17) hx hb hts hinX2 tyX2 tyX2_ok nmX2 hown hK hP hD hS 0 rfl rfl 1 (by decide) (hts (.fieldLink RX2 63 "LoanCasesModel" "things" "I") (by decide +kernel)) (fun _ h9 => h9) rfl (by decide +kernel) rfl rfl (Nat.le_of_ble_eq_true rfl) dX2_clear_12 (fun H locs hP hD hS => ?_)
  have hP : va_P D vwCl (mW kI kJ a (sU S0 6 0 0) G) H := hP
  have hD : va_D A (mW kI kJ a (sU S0 6 0 0) G) := hD
  refine lv_aload_n hx hb dX2_clear_15 rfl (lv_at hl 1 rfl) ?_
  refine lv_iconst (v := 0) hx hb dX2_clear_16 (by decide) ?_
  refine va_put (D := D) (ci := 5) (v := .int 0) (ty := .int) (C := RX2) (T := TX2) (N := 17) hx hb hts hinX2 tyX2 tyX2_ok nmX2 hown hK hP hD hS 0 rfl rfl 9 (by decide) (hts (.fieldLink RX2 74 "LoanCasesModel" "loans" "I") (by decide +kernel)) (fun _ h9 => h9) rfl (by decide +kernel) rfl rfl (Nat.le_of_ble_eq_true rfl) dX2_clear_17 (fun H locs hP hD hS => ?_)
  have hP : va_P D vwCl (mW kI kJ a (sU (sU S0 6 0 0) 7 0 0) G) H := hP
  have hD : va_D A (mW kI kJ a (sU (sU S0 6 0 0) 7 0 0) G) := hD
  refine lv_iconst (v := 0) hx hb dX2_clear_20 (by decide) ?_
  refine lv_istore_n (lv' := [(2, .int 0), (1, .int (S0 6 0)), (0, .ref (a 0))]) hx hb dX2_clear_21 rfl hl (by decide) rfl (fun ls hl => ?_)
  have loop22 : ∀ (n22 : Nat) (i : Nat), (7 ≤ i + n22) → (i ≤ 6) → ∀ (H : Heap) (locs : List Loc), va_P D vwCl (mW kI kJ a (mcl S0 i) G) H → va_D A (mW kI kJ a (mcl S0 i) G) → va_S A s.heap H locs → ∀ (ls : Array Slot), lv_has ls 3 [(0, .ref (a 0)), (1, .int (S0 6 0)), (2, .int (nI i))] → W p l e ({ frames := 0, cells := 0, slots := 0, locals := 0 }) s m ([.ref (a 0)] : List Value).toArray below meth c H locs 0 0 (MQ below (va_Qi (fun r (u : (Nat → Nat → Int32) × (Nat → Int64)) => r = (sU S 16 0 0) 6 0 ∧ u = (mcl (sU S 16 0 0) 6, G)) (q_wB D (xTY kI kJ kL) (mW kI kJ a S G) s.heap.size (fun u : (Nat → Nat → Int32) × (Nat → Int64) => mW kI kJ a u.1 u.2)) A) ([.ref (a 0)] : List Value).toArray s 0 0 A) (F0 m 22 ls []) := by
    intro n22
    induction n22 with
    | zero =>
      intro i hf hi
      exact absurd hf (by omega)
    | succ n22 ih22 =>
      intro i hf hi H locs hP hD hS ls hl
      refine lv_iload_n hx hb dX2_clear_22 rfl (lv_at hl 2 rfl) ?_
      refine lv_bipush (v := 6) hx hb dX2_clear_23 (by decide) ?_
      refine lv_icmp_ge (tgt := 41) hx hb dX2_clear_25 (by decide) (fun c_1 => ?_) (fun c_1 => ?_)
      · have hi2 : i = 6 := by
          have h7 : 6 ≤ i := (nI_leI (a := 6) (b := i) (by omega) (by omega)).mp c_1
          omega
        refine lv_iload_n hx hb dX2_clear_41 rfl (lv_at hl 1 rfl) ?_
        exact W.iret (v := (S0 6 0)) hx hb hr (fun t9 ht hW => ⟨⟨(S0 6 0), ((mcl S0 i), G), rfl, (by rw [← hS0]; exact ⟨rfl, by rw [hi2]⟩), by rw [ht]; exact hP, va_K.moved hW.alike hK, by rw [hAe]; exact hD⟩, hS.F ht⟩) hS.2.2 dX2_clear_42
      · have hi2 : i < 6 := Nat.lt_of_not_le (fun h8 => c_1 ((nI_leI (a := 6) (b := i) (by omega) (by omega)).mpr h8))
        have hin : vp_in (nI i) 6 := vp_in_nI (by omega) (by omega)
        refine lv_aload_n hx hb dX2_clear_28 rfl (lv_at hl 0 rfl) ?_
        refine va_get (D := D) (ci := 5) (v := .ref (a 14)) (C := RX2) (T := TX2) (N := 17) hx hb hts hinX2 hown hK hP 0 rfl rfl 16 (by decide) (hts (.fieldLink RX2 56 "LoanCasesModel" "findings" "[I") (by decide +kernel)) (fun _ h9 => h9) rfl dX2_clear_29 ?_
        refine lv_iload_n hx hb dX2_clear_32 rfl (lv_at hl 2 rfl) ?_
        refine lv_iconst (v := 0) hx hb dX2_clear_33 (by decide) ?_
        refine va_iast hx hb hK hP hD hS 14 0 rfl rfl hin dX2_clear_34 (fun H locs hP hD hS => ?_)
        have hP : va_P D vwCl (mW kI kJ a (sU (mcl S0 i) 5 ((nI i).toNatClampNeg) 0) G) H := hP
        have hD : va_D A (mW kI kJ a (sU (mcl S0 i) 5 ((nI i).toNatClampNeg) 0) G) := hD
        obtain ⟨x_2, ex_2⟩ : ∃ y : Int32, y = (nI i) + (1) := ⟨_, rfl⟩
        refine lv_iinc (v := x_2) (lv' := [(2, .int x_2), (0, .ref (a 0)), (1, .int (S0 6 0))]) hx hb dX2_clear_35 hl (k := 2) rfl (by rw [ex_2]; rfl) (by decide) rfl (fun ls hl => ?_)
        refine lv_goto (tgt := 22) hx hb dX2_clear_38 (by decide) ?_
        rw [show x_2 = nI (i + 1) from (ex_2).trans (nI_1 i)] at hl
        exact ih22 (i + 1) (by omega) (by omega) H locs hP hD hS ls (lv_sub hl [1, 2, 0] rfl)
  exact loop22 7 0 (by omega) (by omega) H locs hP hD hS ls (lv_sub hl [2, 1, 0] rfl)
