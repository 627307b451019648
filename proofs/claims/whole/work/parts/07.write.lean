
theorem xfl_ne (S : Nat → Nat → Int32) (n e : Int32) (b : Nat) (hb : ¬ b = 4) : ∀ k, xfl S n e k b = S b
  | 0 => rfl
  | k + 1 => by
    rw [xfl, sU, if_neg hb]
    exact xfl_ne S n e b hb k
theorem pl_in {t i z : Int32} (ht : vp_in t 110) (h0 : ¬ i < 0) (h1 : ¬ z ≤ i) (hz : z.toInt ≤ 10) : vp_in (t * 10 + i) 1100 := by
  obtain ⟨k, hk, rfl⟩ := vp_in_of ht (by omega)
  obtain ⟨j, hj, rfl⟩ := vp_in_of (vp_in_lt (L := 10) h0 h1 hz) (by omega)
  rw [show (10 : Int32) = nI 10 from rfl, pk_mul, nI_add]
  exact vp_in_nI (by omega) (by omega)
noncomputable def xs_thing (S : Nat → Nat → Int32) (f y : Int32) : Int32 × (Nat → Nat → Int32) := cif (btw f 0 4) (cif (btw y 0 3000) (cif (S 6 0 < 110) (S 6 0, xad S f y 0) (-4, S)) (-2, S)) (-2, S)
noncomputable def xs_row (S : Nat → Nat → Int32) (f z : Int32) : Int32 × (Nat → Nat → Int32) := cif (btw f 5 17) (cif (z ≤ 10) (cif (S 6 0 < 110) (cif (0 ≤ z) (S 6 0, xad S f 0 z) (-30 - 5, xfd S 5)) (-4, S)) (-2, S)) (-2, S)
noncomputable def xs_makeCase (S : Nat → Nat → Int32) : Int32 × (Nat → Nat → Int32) := cif (S 6 0 < 110) (S 6 0, xad S 18 0 0) (-4, S)
noncomputable def xs_worth (S : Nat → Nat → Int32) (t k : Int32) : Int32 × (Nat → Nat → Int32) := cif (xT S t) (cif (btw k 0 3) (cif (xOf S t k) (xwo (S 0 t.toNatClampNeg) (S 1 t.toNatClampNeg), S) (-30 - 1, xfd S 1)) (-2, S)) (-1, S)
noncomputable def xs_date (S : Nat → Nat → Int32) (t : Int32) : Int32 × (Nat → Nat → Int32) := cif (xT S t) (cif (xOf S t 19) (cif (S 0 t.toNatClampNeg = 2) (S 1 t.toNatClampNeg + 1, S) (S 1 t.toNatClampNeg - 1, S)) (-30 - 1, xfd S 1)) (-1, S)
noncomputable def xs_size (S : Nat → Nat → Int32) (t k : Int32) : Int32 × (Nat → Nat → Int32) := cif (xT S t) (cif (btw k 5 17) (cif (xOf S t k) (S 2 t.toNatClampNeg, S) (-30 - 1, xfd S 1)) (-2, S)) (-1, S)
noncomputable def xs_write2 (S : Nat → Nat → Int32) (t k i : Int32) (v : Int64) : Int32 × (Nat → Nat → Int32) := cif (xOf S t k) (cif (xPl S t i) (1, sU S 4 (t * 10 + i).toNatClampNeg (xlo k v)) (-30 - 3, xfd S 3)) (-30 - 1, xfd S 1)
noncomputable def xs_write (S : Nat → Nat → Int32) (t k i : Int32) (v : Int64) : Int32 × (Nat → Nat → Int32) := cif (xT S t) (cif (btw k 5 8) (cif (k = 8) (cif (lg_cmp v v.toInt32.toInt64 = 0) (xs_write2 S t k i v) (-2, S)) (xs_write2 S t k i v)) (-2, S)) (-1, S)
noncomputable def xs_hang (S : Nat → Nat → Int32) (t k i o : Int32) : Int32 × (Nat → Nat → Int32) := cif (xT S t) (cif (xTN S o) (cif (btw k 9 17) (cif (xOf S t k) (cif (xPs S o (xpo k)) (cif (xPl S t i) (cif (xPs S o (xpo (S 0 t.toNatClampNeg))) (1, sU S 4 (t * 10 + i).toNatClampNeg o) (-30 - 4, xfd S 4)) (-30 - 3, xfd S 3)) (-30 - 1, xfd S 1)) (-30 - 1, xfd S 1)) (-2, S)) (-1, S)) (-1, S)
noncomputable def xs_at (S : Nat → Nat → Int32) (t k i : Int32) : Int32 × (Nat → Nat → Int32) := cif (xT S t) (cif (btw k 9 17) (cif (xOf S t k) (cif (xPl S t i) (S 4 (t * 10 + i).toNatClampNeg, S) (-30 - 3, xfd S 3)) (-30 - 1, xfd S 1)) (-2, S)) (-1, S)
noncomputable def xs_deep2 (S : Nat → Nat → Int32) (t k i z : Int32) : Int32 × (Nat → Nat → Int32) := cif (xOf S t k) (cif (xPl S t i) (cif (xT S (S 4 (t * 10 + i).toNatClampNeg)) (cif (xPl S (S 4 (t * 10 + i).toNatClampNeg) z) (S 4 (S 4 (t * 10 + i).toNatClampNeg * 10 + z).toNatClampNeg, S) (-30 - 3, xfd S 3)) (-30 - 2, xfd S 2)) (-30 - 3, xfd S 3)) (-30 - 1, xfd S 1)
noncomputable def xs_deep (S : Nat → Nat → Int32) (t k i z : Int32) : Int32 × (Nat → Nat → Int32) := cif (xT S t) (cif (k = 9) (xs_deep2 S t k i z) (cif (k = 15) (xs_deep2 S t k i z) (cif (k = 16) (xs_deep2 S t k i z) (-2, S)))) (-1, S)
noncomputable def xs_fill (S : Nat → Nat → Int32) (b t : Int32) : Int32 × (Nat → Nat → Int32) := cif (xK S b) (cif (xTN S t) (cif (xch S b 110 t = b) (-3, S) (S 3 b.toNatClampNeg, sU S 3 b.toNatClampNeg t)) (-1, S)) (-1, S)
noncomputable def xs_inside (S : Nat → Nat → Int32) (b : Int32) : Int32 × (Nat → Nat → Int32) := cif (xK S b) (cif (xT S (xin S 110 (S 3 b.toNatClampNeg))) (cif (xOf S (xin S 110 (S 3 b.toNatClampNeg)) 0) (xwo (S 0 (xin S 110 (S 3 b.toNatClampNeg)).toNatClampNeg) (S 1 (xin S 110 (S 3 b.toNatClampNeg)).toNatClampNeg), S) (-30 - 1, xfd S 1)) (-30 - 2, xfd S 2)) (-1, S)
def xcl (S : Nat → Nat → Int32) : Nat → (Nat → Nat → Int32)
  | 0 => sU (sU S 6 0 0) 7 0 0
  | k + 1 => sU (xcl S k) 5 (nI k).toNatClampNeg 0
set_option maxHeartbeats 4000000 in
set_option maxRecDepth 100000 in
theorem c_X1_add (l : Launch) (D : va_G) (kI kJ kL : ClassId) (a q : Nat → Nat) (S : Nat → Nat → Int32) (N : Nat → Nat → Nat → Int32) (F : Nat → Option Nat) (B : Nat) (sz : Nat) (f : Int32) (y : Int32) (z : Int32) (n : Nat) (hn6 : S 6 0 = nI n) (hnl : n < 110) (zz : Nat) (hz : z = nI zz) (hzz : zz ≤ 10) : Met l yX1_add wsX1_add ({ frames := 1, cells := 0, slots := 0, locals := 22 }) (q_wP D (xTY kI kJ kL) (xW kI kL a q S N F B) sz [.ref (a 0), .int f, .int y, .int z]) (va_Qi (fun r (u : (Nat → Nat → Int32) × (Nat → Nat → Nat → Int32)) => r = S 6 0 ∧ u = (xad S f y z, N)) (q_wB D (xTY kI kJ kL) (xW kI kL a q S N F B) sz (fun u : (Nat → Nat → Int32) × (Nat → Nat → Nat → Int32) => xW kI kL a q u.1 u.2 F B)) (va_A (xW kI kL a q S N F B) sz)) 0 0 (va_A (xW kI kL a q S N F B) sz) := by
  refine Met.ofW (cc := cX1_add) (maxL := 7) (ret := (some .int)) (by decide) rfl ?_
  intro p e s m args below meth c s₁ Bd hml hv
  obtain ⟨rfl, hsz, hP, hK, hD0, hN⟩ := hv
  have hx := Bd.exec
  have hb := Bd.bytes
  have hr := Bd.returns
  have hts := atoms_spec (ws := wsX1_add) Bd.pre
  have hown : s.vm.findClass RX1 = some m.cls := findClass_of_methodNamed Bd.named
  have hlocks := Bd.notSynchronized
  subst hsz
  have hD := hD0.self (sz := s.heap.size)
  generalize hAe : va_A (xW kI kL a q S N F B) s.heap.size = A at hD ⊢
  have hA : ∀ q : Nat, s.heap.size ≤ q → A q := fun q h => by rw [← hAe]; exact Or.inr h
  have hS : va_S A s.heap s.heap [] := va_S.rf
  have hl := lv_entry ([.ref (a 0), .int f, .int y, .int z]) (n := 7) (Nat.le_of_ble_eq_true rfl)
  rw [lg_entry_eq]
  generalize (lg_sl ([.ref (a 0), .int f, .int y, .int z]) ++ List.replicate (7 - (lg_sl ([.ref (a 0), .int f, .int y, .int z])).length) Slot.unset).toArray = ls at hl ⊢
  have hl : lv_has ls 7 [(0, .ref (a 0)), (1, .int f), (2, .int y), (3, .int z)] := hl
  have hinX1 : ∀ w ∈ u_ws RX1 TX1 9, w ∈ wsX1_add := by decide +kernel
  have hin6 : vp_in (S 6 0) 110 := by
    rw [hn6]
    exact vp_in_nI (by omega) (by omega)
  refine lv_aload_n hx hb dX1_add_0 rfl (lv_at hl 0 rfl) ?_
  refine va_get (D := D) (ci := 4) (v := .int (S 6 0)) (C := RX1) (T := TX1) (N := 9) hx hb hts hinX1 hown hK hP 0 rfl rfl 5 (by decide) (hts (.fieldLink RX1 38 "LoanCases" "things" "I") (by decide +kernel)) (fun _ h9 => h9) rfl dX1_add_1 ?_
  refine lv_istore (lv' := [(4, .int (S 6 0)), (0, .ref (a 0)), (1, .int f), (2, .int y), (3, .int z)]) hx hb dX1_add_4 hl (by decide) rfl (fun ls hl => ?_)
  refine lv_aload_n hx hb dX1_add_6 rfl (lv_at hl 1 rfl) ?_
  refine va_get (D := D) (ci := 4) (v := .ref (a 1)) (C := RX1) (T := TX1) (N := 9) hx hb hts hinX1 hown hK hP 0 rfl rfl 0 (by decide) (hts (.fieldLink RX1 9 "LoanCases" "forms" "[I") (by decide +kernel)) (fun _ h9 => h9) rfl dX1_add_7 ?_
  refine lv_iload hx hb dX1_add_10 (lv_at hl 0 rfl) ?_
  refine lv_iload_n hx hb dX1_add_12 rfl (lv_at hl 2 rfl) ?_
  refine va_iast hx hb hK hP hD hS 1 0 rfl rfl hin6 dX1_add_13 (fun H locs hP hD hS => ?_)
  have hP : va_P D vwCl (xW kI kL a q (sU S 0 ((S 6 0).toNatClampNeg) f) N F B) H := hP
  have hD : va_D A (xW kI kL a q (sU S 0 ((S 6 0).toNatClampNeg) f) N F B) := hD
  refine lv_aload_n hx hb dX1_add_14 rfl (lv_at hl 1 rfl) ?_
  refine va_get (D := D) (ci := 4) (v := .ref (a 2)) (C := RX1) (T := TX1) (N := 9) hx hb hts hinX1 hown hK hP 0 rfl rfl 1 (by decide) (hts (.fieldLink RX1 13 "LoanCases" "years" "[I") (by decide +kernel)) (fun _ h9 => h9) rfl dX1_add_15 ?_
  refine lv_iload hx hb dX1_add_18 (lv_at hl 0 rfl) ?_
  refine lv_iload_n hx hb dX1_add_20 rfl (lv_at hl 3 rfl) ?_
  refine va_iast hx hb hK hP hD hS 2 0 rfl rfl hin6 dX1_add_21 (fun H locs hP hD hS => ?_)
  have hP : va_P D vwCl (xW kI kL a q (sU (sU S 0 ((S 6 0).toNatClampNeg) f) 1 ((S 6 0).toNatClampNeg) y) N F B) H := hP
  have hD : va_D A (xW kI kL a q (sU (sU S 0 ((S 6 0).toNatClampNeg) f) 1 ((S 6 0).toNatClampNeg) y) N F B) := hD
  refine lv_aload_n hx hb dX1_add_22 rfl (lv_at hl 1 rfl) ?_
  refine va_get (D := D) (ci := 4) (v := .ref (a 3)) (C := RX1) (T := TX1) (N := 9) hx hb hts hinX1 hown hK hP 0 rfl rfl 2 (by decide) (hts (.fieldLink RX1 16 "LoanCases" "sizes" "[I") (by decide +kernel)) (fun _ h9 => h9) rfl dX1_add_23 ?_
  refine lv_iload hx hb dX1_add_26 (lv_at hl 0 rfl) ?_
  refine lv_iload_n hx hb dX1_add_28 rfl (lv_at hl 4 rfl) ?_
  refine va_iast hx hb hK hP hD hS 3 0 rfl rfl hin6 dX1_add_29 (fun H locs hP hD hS => ?_)
  have hP : va_P D vwCl (xW kI kL a q (sU (sU (sU S 0 ((S 6 0).toNatClampNeg) f) 1 ((S 6 0).toNatClampNeg) y) 2 ((S 6 0).toNatClampNeg) z) N F B) H := hP
  have hD : va_D A (xW kI kL a q (sU (sU (sU S 0 ((S 6 0).toNatClampNeg) f) 1 ((S 6 0).toNatClampNeg) y) 2 ((S 6 0).toNatClampNeg) z) N F B) := hD
  refine lv_aload_n hx hb dX1_add_30 rfl (lv_at hl 1 rfl) ?_
  refine va_get (D := D) (ci := 4) (v := .ref (a 4)) (C := RX1) (T := TX1) (N := 9) hx hb hts hinX1 hown hK hP 0 rfl rfl 3 (by decide) (hts (.fieldLink RX1 19 "LoanCases" "holds" "[I") (by decide +kernel)) (fun _ h9 => h9) rfl dX1_add_31 ?_
  refine lv_iload hx hb dX1_add_34 (lv_at hl 0 rfl) ?_
  refine lv_bipush (v := -5) hx hb dX1_add_36 (by decide) ?_
  refine va_iast hx hb hK hP hD hS 4 0 rfl rfl hin6 dX1_add_38 (fun H locs hP hD hS => ?_)
  have hP : va_P D vwCl (xW kI kL a q (sU (sU (sU (sU S 0 ((S 6 0).toNatClampNeg) f) 1 ((S 6 0).toNatClampNeg) y) 2 ((S 6 0).toNatClampNeg) z) 3 ((S 6 0).toNatClampNeg) (-5)) N F B) H := hP
  have hD : va_D A (xW kI kL a q (sU (sU (sU (sU S 0 ((S 6 0).toNatClampNeg) f) 1 ((S 6 0).toNatClampNeg) y) 2 ((S 6 0).toNatClampNeg) z) 3 ((S 6 0).toNatClampNeg) (-5)) N F B) := hD
  refine lv_iload_n hx hb dX1_add_39 rfl (lv_at hl 2 rfl) ?_
  refine lv_bipush (v := 9) hx hb dX1_add_40 (by decide) ?_
  refine lv_bipush (v := 17) hx hb dX1_add_42 (by decide) ?_
  refine vp_callSi (W.runS (As := [.int f, .int 9, .int 17]) (rest := []) ⟨hx, hb, hml, hown, hts⟩ (c_X1_between l D kI kJ kL f 9 17) (va_cwS 3 hts gX1_add_X1_between rfl rfl rfl (by decide +kernel) ⟨Nat.le_of_ble_eq_true rfl, Nat.le_of_ble_eq_true rfl⟩) (q_rS0 hK hN) rfl rfl hl.1 rfl (lv_room (Nat.le_of_ble_eq_true rfl)) dX1_add_44 ⟨Nat.le_of_ble_eq_true rfl, Nat.le_of_ble_eq_true rfl⟩) (fun r_h_1 h_1 => ?_)
  rcases h_1 with ⟨rfl, h_1⟩ | ⟨rfl, h_1⟩
  · refine lv_if_eq (tgt := 55) hx hb dX1_add_47 (by decide) (fun c_2 => absurd c_2 (by decide)) (fun c_2 => ?_)
    refine lv_bipush (v := -5) hx hb dX1_add_50 (by decide) ?_
    refine lv_goto (tgt := 56) hx hb dX1_add_52 (by decide) ?_
    refine lv_istore (lv' := [(5, .int (-5)), (4, .int (S 6 0)), (0, .ref (a 0)), (1, .int f), (2, .int y), (3, .int z)]) hx hb dX1_add_56 hl (by decide) rfl (fun ls hl => ?_)
    refine lv_iconst (v := 0) hx hb dX1_add_58 (by decide) ?_
    refine lv_istore (lv' := [(6, .int 0), (5, .int (-5)), (4, .int (S 6 0)), (0, .ref (a 0)), (1, .int f), (2, .int y), (3, .int z)]) hx hb dX1_add_59 hl (by decide) rfl (fun ls hl => ?_)
    have loop61 : ∀ (n61 : Nat) (i : Nat), (zz + 1 ≤ i + n61) → (i ≤ zz) → ∀ (H : Heap) (locs : List Loc), va_P D vwCl (xW kI kL a q (xfl (sU (sU (sU (sU S 0 ((S 6 0).toNatClampNeg) f) 1 ((S 6 0).toNatClampNeg) y) 2 ((S 6 0).toNatClampNeg) z) 3 ((S 6 0).toNatClampNeg) (-5)) (S 6 0) (-5) i) N F B) H → va_D A (xW kI kL a q (xfl (sU (sU (sU (sU S 0 ((S 6 0).toNatClampNeg) f) 1 ((S 6 0).toNatClampNeg) y) 2 ((S 6 0).toNatClampNeg) z) 3 ((S 6 0).toNatClampNeg) (-5)) (S 6 0) (-5) i) N F B) → va_S A s.heap H locs → ∀ (ls : Array Slot), lv_has ls 7 [(0, .ref (a 0)), (1, .int f), (2, .int y), (3, .int z), (4, .int (S 6 0)), (5, .int (-5)), (6, .int (nI i))] → W p l e ({ frames := 1, cells := 0, slots := 0, locals := 22 }) s m ([.ref (a 0), .int f, .int y, .int z] : List Value).toArray below meth c H locs 0 0 (MQ below (va_Qi (fun r (u : (Nat → Nat → Int32) × (Nat → Nat → Nat → Int32)) => r = S 6 0 ∧ u = (xad S f y z, N)) (q_wB D (xTY kI kJ kL) (xW kI kL a q S N F B) s.heap.size (fun u : (Nat → Nat → Int32) × (Nat → Nat → Nat → Int32) => xW kI kL a q u.1 u.2 F B)) A) ([.ref (a 0), .int f, .int y, .int z] : List Value).toArray s 0 0 A) (F0 m 61 ls []) := by
      intro n61
      induction n61 with
      | zero =>
        intro i hf hi
        exact absurd hf (by omega)
      | succ n61 ih61 =>
        intro i hf hi H locs hP hD hS ls hl
        refine lv_iload hx hb dX1_add_61 (lv_at hl 6 rfl) ?_
        refine lv_iload_n hx hb dX1_add_63 rfl (lv_at hl 3 rfl) ?_
        refine lv_icmp_ge (tgt := 88) hx hb dX1_add_64 (by decide) (fun c_3 => ?_) (fun c_3 => ?_)
        · rw [hz] at c_3
          have hi2 : i = zz := by
            have h7 : zz ≤ i := (nI_leI (a := zz) (b := i) (by omega) (by omega)).mp c_3
            omega
          refine lv_aload_n hx hb dX1_add_88 rfl (lv_at hl 0 rfl) ?_
          refine lv_dup hx hb dX1_add_89 rfl ?_
          refine va_get (D := D) (ci := 4) (v := .int ((xfl (sU (sU (sU (sU S 0 ((S 6 0).toNatClampNeg) f) 1 ((S 6 0).toNatClampNeg) y) 2 ((S 6 0).toNatClampNeg) z) 3 ((S 6 0).toNatClampNeg) (-5)) (S 6 0) (-5) i) 6 0)) (C := RX1) (T := TX1) (N := 9) hx hb hts hinX1 hown hK hP 0 rfl rfl 5 (by decide) (hts (.fieldLink RX1 38 "LoanCases" "things" "I") (by decide +kernel)) (fun _ h9 => h9) rfl dX1_add_90 ?_
          refine lv_iconst (v := 1) hx hb dX1_add_93 (by decide) ?_
          refine lv_iadd hx hb dX1_add_94 ?_
          refine va_put (D := D) (ci := 4) (v := .int (((xfl (sU (sU (sU (sU S 0 ((S 6 0).toNatClampNeg) f) 1 ((S 6 0).toNatClampNeg) y) 2 ((S 6 0).toNatClampNeg) z) 3 ((S 6 0).toNatClampNeg) (-5)) (S 6 0) (-5) i) 6 0) + 1)) (ty := .int) (C := RX1) (T := TX1) (N := 9) hx hb hts hinX1 tyX1 tyX1_ok nmX1 hown hK hP hD hS 0 rfl rfl 5 (by decide) (hts (.fieldLink RX1 38 "LoanCases" "things" "I") (by decide +kernel)) (fun _ h9 => h9) rfl (by decide +kernel) rfl rfl (Nat.le_of_ble_eq_true rfl) dX1_add_95 (fun H locs hP hD hS => ?_)
          have hP : va_P D vwCl (xW kI kL a q (sU (xfl (sU (sU (sU (sU S 0 ((S 6 0).toNatClampNeg) f) 1 ((S 6 0).toNatClampNeg) y) 2 ((S 6 0).toNatClampNeg) z) 3 ((S 6 0).toNatClampNeg) (-5)) (S 6 0) (-5) i) 6 0 (((xfl (sU (sU (sU (sU S 0 ((S 6 0).toNatClampNeg) f) 1 ((S 6 0).toNatClampNeg) y) 2 ((S 6 0).toNatClampNeg) z) 3 ((S 6 0).toNatClampNeg) (-5)) (S 6 0) (-5) i) 6 0) + 1)) N F B) H := hP
          have hD : va_D A (xW kI kL a q (sU (xfl (sU (sU (sU (sU S 0 ((S 6 0).toNatClampNeg) f) 1 ((S 6 0).toNatClampNeg) y) 2 ((S 6 0).toNatClampNeg) z) 3 ((S 6 0).toNatClampNeg) (-5)) (S 6 0) (-5) i) 6 0 (((xfl (sU (sU (sU (sU S 0 ((S 6 0).toNatClampNeg) f) 1 ((S 6 0).toNatClampNeg) y) 2 ((S 6 0).toNatClampNeg) z) 3 ((S 6 0).toNatClampNeg) (-5)) (S 6 0) (-5) i) 6 0) + 1)) N F B) := hD
          refine lv_iload hx hb dX1_add_98 (lv_at hl 4 rfl) ?_
          exact W.iret (v := (S 6 0)) hx hb hr (fun t9 ht hW => ⟨⟨(S 6 0), ((sU (xfl (sU (sU (sU (sU S 0 ((S 6 0).toNatClampNeg) f) 1 ((S 6 0).toNatClampNeg) y) 2 ((S 6 0).toNatClampNeg) z) 3 ((S 6 0).toNatClampNeg) (-5)) (S 6 0) (-5) i) 6 0 (((xfl (sU (sU (sU (sU S 0 ((S 6 0).toNatClampNeg) f) 1 ((S 6 0).toNatClampNeg) y) 2 ((S 6 0).toNatClampNeg) z) 3 ((S 6 0).toNatClampNeg) (-5)) (S 6 0) (-5) i) 6 0) + 1)), N), rfl, ⟨rfl, by rw [xad, cif_t h_1, show z.toNatClampNeg = i by rw [hz, hi2]; exact nI_clamp (by omega), xfl_ne _ _ _ 6 (by decide)]; rfl⟩, by rw [ht]; exact hP, va_K.moved hW.alike hK, by rw [hAe]; exact hD⟩, hS.F ht⟩) hS.2.2 dX1_add_100
        · rw [hz] at c_3
          have hi2 : i < zz := Nat.lt_of_not_le (fun h8 => c_3 ((nI_leI (a := zz) (b := i) (by omega) (by omega)).mpr h8))
          have hin : vp_in (S 6 0 * 10 + nI i) 1100 := by
            rw [hn6, show (10 : Int32) = nI 10 from rfl, pk_mul, nI_add]
            exact vp_in_nI (by omega) (by omega)
          refine lv_aload_n hx hb dX1_add_67 rfl (lv_at hl 0 rfl) ?_
          refine va_get (D := D) (ci := 4) (v := .ref (a 5)) (C := RX1) (T := TX1) (N := 9) hx hb hts hinX1 hown hK hP 0 rfl rfl 4 (by decide) (hts (.fieldLink RX1 22 "LoanCases" "places" "[I") (by decide +kernel)) (fun _ h9 => h9) rfl dX1_add_68 ?_
          refine lv_iload hx hb dX1_add_71 (lv_at hl 4 rfl) ?_
          refine lv_bipush (v := 10) hx hb dX1_add_73 (by decide) ?_
          refine lv_imul hx hb dX1_add_75 ?_
          refine lv_iload hx hb dX1_add_76 (lv_at hl 6 rfl) ?_
          refine lv_iadd hx hb dX1_add_78 ?_
          refine lv_iload hx hb dX1_add_79 (lv_at hl 5 rfl) ?_
          refine va_iast hx hb hK hP hD hS 5 0 rfl rfl hin dX1_add_81 (fun H locs hP hD hS => ?_)
          have hP : va_P D vwCl (xW kI kL a q (sU (xfl (sU (sU (sU (sU S 0 ((S 6 0).toNatClampNeg) f) 1 ((S 6 0).toNatClampNeg) y) 2 ((S 6 0).toNatClampNeg) z) 3 ((S 6 0).toNatClampNeg) (-5)) (S 6 0) (-5) i) 4 ((((S 6 0) * 10) + (nI i)).toNatClampNeg) (-5)) N F B) H := hP
          have hD : va_D A (xW kI kL a q (sU (xfl (sU (sU (sU (sU S 0 ((S 6 0).toNatClampNeg) f) 1 ((S 6 0).toNatClampNeg) y) 2 ((S 6 0).toNatClampNeg) z) 3 ((S 6 0).toNatClampNeg) (-5)) (S 6 0) (-5) i) 4 ((((S 6 0) * 10) + (nI i)).toNatClampNeg) (-5)) N F B) := hD
          obtain ⟨x_4, ex_4⟩ : ∃ y : Int32, y = (nI i) + (1) := ⟨_, rfl⟩
          refine lv_iinc (v := x_4) (lv' := [(6, .int x_4), (0, .ref (a 0)), (1, .int f), (2, .int y), (3, .int z), (4, .int (S 6 0)), (5, .int (-5))]) hx hb dX1_add_82 hl (k := 6) rfl (by rw [ex_4]; rfl) (by decide) rfl (fun ls hl => ?_)
          refine lv_goto (tgt := 61) hx hb dX1_add_85 (by decide) ?_
          rw [show x_4 = nI (i + 1) from (ex_4).trans (nI_1 i)] at hl
          exact ih61 (i + 1) (by omega) (by omega) H locs hP hD hS ls (lv_sub hl [1, 2, 3, 4, 5, 6, 0] rfl)
    exact loop61 (zz + 1) 0 (by omega) (by omega) H locs hP hD hS ls (lv_sub hl [3, 4, 5, 6, 2, 1, 0] rfl)
  · refine lv_if_eq (tgt := 55) hx hb dX1_add_47 (by decide) (fun c_5 => ?_) (fun c_5 => absurd c_5 (by decide))
    refine lv_iconst (v := 0) hx hb dX1_add_55 (by decide) ?_
    refine lv_istore (lv' := [(5, .int 0), (4, .int (S 6 0)), (0, .ref (a 0)), (1, .int f), (2, .int y), (3, .int z)]) hx hb dX1_add_56 hl (by decide) rfl (fun ls hl => ?_)
    refine lv_iconst (v := 0) hx hb dX1_add_58 (by decide) ?_
    refine lv_istore (lv' := [(6, .int 0), (5, .int 0), (4, .int (S 6 0)), (0, .ref (a 0)), (1, .int f), (2, .int y), (3, .int z)]) hx hb dX1_add_59 hl (by decide) rfl (fun ls hl => ?_)
    have loop61 : ∀ (n61 : Nat) (i : Nat), (zz + 1 ≤ i + n61) → (i ≤ zz) → ∀ (H : Heap) (locs : List Loc), va_P D vwCl (xW kI kL a q (xfl (sU (sU (sU (sU S 0 ((S 6 0).toNatClampNeg) f) 1 ((S 6 0).toNatClampNeg) y) 2 ((S 6 0).toNatClampNeg) z) 3 ((S 6 0).toNatClampNeg) (-5)) (S 6 0) 0 i) N F B) H → va_D A (xW kI kL a q (xfl (sU (sU (sU (sU S 0 ((S 6 0).toNatClampNeg) f) 1 ((S 6 0).toNatClampNeg) y) 2 ((S 6 0).toNatClampNeg) z) 3 ((S 6 0).toNatClampNeg) (-5)) (S 6 0) 0 i) N F B) → va_S A s.heap H locs → ∀ (ls : Array Slot), lv_has ls 7 [(0, .ref (a 0)), (1, .int f), (2, .int y), (3, .int z), (4, .int (S 6 0)), (5, .int 0), (6, .int (nI i))] → W p l e ({ frames := 1, cells := 0, slots := 0, locals := 22 }) s m ([.ref (a 0), .int f, .int y, .int z] : List Value).toArray below meth c H locs 0 0 (MQ below (va_Qi (fun r (u : (Nat → Nat → Int32) × (Nat → Nat → Nat → Int32)) => r = S 6 0 ∧ u = (xad S f y z, N)) (q_wB D (xTY kI kJ kL) (xW kI kL a q S N F B) s.heap.size (fun u : (Nat → Nat → Int32) × (Nat → Nat → Nat → Int32) => xW kI kL a q u.1 u.2 F B)) A) ([.ref (a 0), .int f, .int y, .int z] : List Value).toArray s 0 0 A) (F0 m 61 ls []) := by
      intro n61
      induction n61 with
      | zero =>
        intro i hf hi
        exact absurd hf (by omega)
      | succ n61 ih61 =>
        intro i hf hi H locs hP hD hS ls hl
        refine lv_iload hx hb dX1_add_61 (lv_at hl 6 rfl) ?_
        refine lv_iload_n hx hb dX1_add_63 rfl (lv_at hl 3 rfl) ?_
        refine lv_icmp_ge (tgt := 88) hx hb dX1_add_64 (by decide) (fun c_6 => ?_) (fun c_6 => ?_)
        · rw [hz] at c_6
          have hi2 : i = zz := by
            have h7 : zz ≤ i := (nI_leI (a := zz) (b := i) (by omega) (by omega)).mp c_6
            omega
          refine lv_aload_n hx hb dX1_add_88 rfl (lv_at hl 0 rfl) ?_
          refine lv_dup hx hb dX1_add_89 rfl ?_
          refine va_get (D := D) (ci := 4) (v := .int ((xfl (sU (sU (sU (sU S 0 ((S 6 0).toNatClampNeg) f) 1 ((S 6 0).toNatClampNeg) y) 2 ((S 6 0).toNatClampNeg) z) 3 ((S 6 0).toNatClampNeg) (-5)) (S 6 0) 0 i) 6 0)) (C := RX1) (T := TX1) (N := 9) hx hb hts hinX1 hown hK hP 0 rfl rfl 5 (by decide) (hts (.fieldLink RX1 38 "LoanCases" "things" "I") (by decide +kernel)) (fun _ h9 => h9) rfl dX1_add_90 ?_
          refine lv_iconst (v := 1) hx hb dX1_add_93 (by decide) ?_
          refine lv_iadd hx hb dX1_add_94 ?_
          refine va_put (D := D) (ci := 4) (v := .int (((xfl (sU (sU (sU (sU S 0 ((S 6 0).toNatClampNeg) f) 1 ((S 6 0).toNatClampNeg) y) 2 ((S 6 0).toNatClampNeg) z) 3 ((S 6 0).toNatClampNeg) (-5)) (S 6 0) 0 i) 6 0) + 1)) (ty := .int) (C := RX1) (T := TX1) (N := 9) hx hb hts hinX1 tyX1 tyX1_ok nmX1 hown hK hP hD hS 0 rfl rfl 5 (by decide) (hts (.fieldLink RX1 38 "LoanCases" "things" "I") (by decide +kernel)) (fun _ h9 => h9) rfl (by decide +kernel) rfl rfl (Nat.le_of_ble_eq_true rfl) dX1_add_95 (fun H locs hP hD hS => ?_)
          have hP : va_P D vwCl (xW kI kL a q (sU (xfl (sU (sU (sU (sU S 0 ((S 6 0).toNatClampNeg) f) 1 ((S 6 0).toNatClampNeg) y) 2 ((S 6 0).toNatClampNeg) z) 3 ((S 6 0).toNatClampNeg) (-5)) (S 6 0) 0 i) 6 0 (((xfl (sU (sU (sU (sU S 0 ((S 6 0).toNatClampNeg) f) 1 ((S 6 0).toNatClampNeg) y) 2 ((S 6 0).toNatClampNeg) z) 3 ((S 6 0).toNatClampNeg) (-5)) (S 6 0) 0 i) 6 0) + 1)) N F B) H := hP
          have hD : va_D A (xW kI kL a q (sU (xfl (sU (sU (sU (sU S 0 ((S 6 0).toNatClampNeg) f) 1 ((S 6 0).toNatClampNeg) y) 2 ((S 6 0).toNatClampNeg) z) 3 ((S 6 0).toNatClampNeg) (-5)) (S 6 0) 0 i) 6 0 (((xfl (sU (sU (sU (sU S 0 ((S 6 0).toNatClampNeg) f) 1 ((S 6 0).toNatClampNeg) y) 2 ((S 6 0).toNatClampNeg) z) 3 ((S 6 0).toNatClampNeg) (-5)) (S 6 0) 0 i) 6 0) + 1)) N F B) := hD
          refine lv_iload hx hb dX1_add_98 (lv_at hl 4 rfl) ?_
          exact W.iret (v := (S 6 0)) hx hb hr (fun t9 ht hW => ⟨⟨(S 6 0), ((sU (xfl (sU (sU (sU (sU S 0 ((S 6 0).toNatClampNeg) f) 1 ((S 6 0).toNatClampNeg) y) 2 ((S 6 0).toNatClampNeg) z) 3 ((S 6 0).toNatClampNeg) (-5)) (S 6 0) 0 i) 6 0 (((xfl (sU (sU (sU (sU S 0 ((S 6 0).toNatClampNeg) f) 1 ((S 6 0).toNatClampNeg) y) 2 ((S 6 0).toNatClampNeg) z) 3 ((S 6 0).toNatClampNeg) (-5)) (S 6 0) 0 i) 6 0) + 1)), N), rfl, ⟨rfl, by rw [xad, cif_f h_1, show z.toNatClampNeg = i by rw [hz, hi2]; exact nI_clamp (by omega), xfl_ne _ _ _ 6 (by decide)]; rfl⟩, by rw [ht]; exact hP, va_K.moved hW.alike hK, by rw [hAe]; exact hD⟩, hS.F ht⟩) hS.2.2 dX1_add_100
        · rw [hz] at c_6
          have hi2 : i < zz := Nat.lt_of_not_le (fun h8 => c_6 ((nI_leI (a := zz) (b := i) (by omega) (by omega)).mpr h8))
          have hin : vp_in (S 6 0 * 10 + nI i) 1100 := by
            rw [hn6, show (10 : Int32) = nI 10 from rfl, pk_mul, nI_add]
            exact vp_in_nI (by omega) (by omega)
          refine lv_aload_n hx hb dX1_add_67 rfl (lv_at hl 0 rfl) ?_
          refine va_get (D := D) (ci := 4) (v := .ref (a 5)) (C := RX1) (T := TX1) (N := 9) hx hb hts hinX1 hown hK hP 0 rfl rfl 4 (by decide) (hts (.fieldLink RX1 22 "LoanCases" "places" "[I") (by decide +kernel)) (fun _ h9 => h9) rfl dX1_add_68 ?_
          refine lv_iload hx hb dX1_add_71 (lv_at hl 4 rfl) ?_
          refine lv_bipush (v := 10) hx hb dX1_add_73 (by decide) ?_
          refine lv_imul hx hb dX1_add_75 ?_
          refine lv_iload hx hb dX1_add_76 (lv_at hl 6 rfl) ?_
          refine lv_iadd hx hb dX1_add_78 ?_
          refine lv_iload hx hb dX1_add_79 (lv_at hl 5 rfl) ?_
          refine va_iast hx hb hK hP hD hS 5 0 rfl rfl hin dX1_add_81 (fun H locs hP hD hS => ?_)
          have hP : va_P D vwCl (xW kI kL a q (sU (xfl (sU (sU (sU (sU S 0 ((S 6 0).toNatClampNeg) f) 1 ((S 6 0).toNatClampNeg) y) 2 ((S 6 0).toNatClampNeg) z) 3 ((S 6 0).toNatClampNeg) (-5)) (S 6 0) 0 i) 4 ((((S 6 0) * 10) + (nI i)).toNatClampNeg) 0) N F B) H := hP
          have hD : va_D A (xW kI kL a q (sU (xfl (sU (sU (sU (sU S 0 ((S 6 0).toNatClampNeg) f) 1 ((S 6 0).toNatClampNeg) y) 2 ((S 6 0).toNatClampNeg) z) 3 ((S 6 0).toNatClampNeg) (-5)) (S 6 0) 0 i) 4 ((((S 6 0) * 10) + (nI i)).toNatClampNeg) 0) N F B) := hD
          obtain ⟨x_7, ex_7⟩ : ∃ y : Int32, y = (nI i) + (1) := ⟨_, rfl⟩
          refine lv_iinc (v := x_7) (lv' := [(6, .int x_7), (0, .ref (a 0)), (1, .int f), (2, .int y), (3, .int z), (4, .int (S 6 0)), (5, .int 0)]) hx hb dX1_add_82 hl (k := 6) rfl (by rw [ex_7]; rfl) (by decide) rfl (fun ls hl => ?_)
          refine lv_goto (tgt := 61) hx hb dX1_add_85 (by decide) ?_
          rw [show x_7 = nI (i + 1) from (ex_7).trans (nI_1 i)] at hl
          exact ih61 (i + 1) (by omega) (by omega) H locs hP hD hS ls (lv_sub hl [1, 2, 3, 4, 5, 6, 0] rfl)
    exact loop61 (zz + 1) 0 (by omega) (by omega) H locs hP hD hS ls (lv_sub hl [3, 4, 5, 6, 2, 1, 0] rfl)

set_option maxHeartbeats 4000000 in
set_option maxRecDepth 100000 in
theorem c_X1_thing (l : Launch) (D : va_G) (kI kJ kL : ClassId) (a q : Nat → Nat) (S : Nat → Nat → Int32) (N : Nat → Nat → Nat → Int32) (F : Nat → Option Nat) (B : Nat) (sz : Nat) (f : Int32) (y : Int32) (n : Nat) (hn6 : S 6 0 = nI n) (hn : n ≤ 110) : Met l yX1_thing wsX1_thing ({ frames := 2, cells := 0, slots := 0, locals := 48 }) (q_wP D (xTY kI kJ kL) (xW kI kL a q S N F B) sz [.ref (a 0), .int f, .int y]) (va_Qi (fun r (u : (Nat → Nat → Int32) × (Nat → Nat → Nat → Int32)) => r = (xs_thing S f y).1 ∧ u = ((xs_thing S f y).2, N)) (q_wB D (xTY kI kJ kL) (xW kI kL a q S N F B) sz (fun u : (Nat → Nat → Int32) × (Nat → Nat → Nat → Int32) => xW kI kL a q u.1 u.2 F B)) (va_A (xW kI kL a q S N F B) sz)) 0 0 (va_A (xW kI kL a q S N F B) sz) := by
  refine Met.ofW (cc := cX1_thing) (maxL := 3) (ret := (some .int)) (by decide) rfl ?_
  intro p e s m args below meth c s₁ Bd hml hv
  obtain ⟨rfl, hsz, hP, hK, hD0, hN⟩ := hv
  have hx := Bd.exec
  have hb := Bd.bytes
  have hr := Bd.returns
  have hts := atoms_spec (ws := wsX1_thing) Bd.pre
  have hown : s.vm.findClass RX1 = some m.cls := findClass_of_methodNamed Bd.named
  have hlocks := Bd.notSynchronized
  subst hsz
  have hD := hD0.self (sz := s.heap.size)
  generalize hAe : va_A (xW kI kL a q S N F B) s.heap.size = A at hD ⊢
  have hA : ∀ q : Nat, s.heap.size ≤ q → A q := fun q h => by rw [← hAe]; exact Or.inr h
  have hS : va_S A s.heap s.heap [] := va_S.rf
  have hl := lv_entry ([.ref (a 0), .int f, .int y]) (n := 3) (Nat.le_of_ble_eq_true rfl)
  rw [lg_entry_eq]
  generalize (lg_sl ([.ref (a 0), .int f, .int y]) ++ List.replicate (3 - (lg_sl ([.ref (a 0), .int f, .int y])).length) Slot.unset).toArray = ls at hl ⊢
  have hl : lv_has ls 3 [(0, .ref (a 0)), (1, .int f), (2, .int y)] := hl
  have hinX1 : ∀ w ∈ u_ws RX1 TX1 9, w ∈ wsX1_thing := by decide +kernel
  refine lv_iload_n hx hb dX1_thing_0 rfl (lv_at hl 1 rfl) ?_
  refine lv_iconst (v := 0) hx hb dX1_thing_1 (by decide) ?_
  refine lv_iconst (v := 4) hx hb dX1_thing_2 (by decide) ?_
  refine vp_callSi (W.runS (As := [.int f, .int 0, .int 4]) (rest := []) ⟨hx, hb, hml, hown, hts⟩ (c_X1_between l D kI kJ kL f 0 4) (va_cwS 3 hts gX1_thing_X1_between rfl rfl rfl (by decide +kernel) ⟨Nat.le_of_ble_eq_true rfl, Nat.le_of_ble_eq_true rfl⟩) (q_rS0 hK hN) rfl rfl hl.1 rfl (lv_room (Nat.le_of_ble_eq_true rfl)) dX1_thing_3 ⟨Nat.le_of_ble_eq_true rfl, Nat.le_of_ble_eq_true rfl⟩) (fun r_h_1 h_1 => ?_)
  rcases h_1 with ⟨rfl, h_1⟩ | ⟨rfl, h_1⟩
  · refine lv_if_eq (tgt := 20) hx hb dX1_thing_6 (by decide) (fun c_2 => absurd c_2 (by decide)) (fun c_2 => ?_)
    refine lv_iload_n hx hb dX1_thing_9 rfl (lv_at hl 2 rfl) ?_
    refine lv_iconst (v := 0) hx hb dX1_thing_10 (by decide) ?_
    refine lv_sipush (v := 3000) hx hb dX1_thing_11 (by decide) ?_
    refine vp_callSi (W.runS (As := [.int y, .int 0, .int 3000]) (rest := []) ⟨hx, hb, hml, hown, hts⟩ (c_X1_between l D kI kJ kL y 0 3000) (va_cwS 3 hts gX1_thing_X1_between rfl rfl rfl (by decide +kernel) ⟨Nat.le_of_ble_eq_true rfl, Nat.le_of_ble_eq_true rfl⟩) (q_rS0 hK hN) rfl rfl hl.1 rfl (lv_room (Nat.le_of_ble_eq_true rfl)) dX1_thing_14 ⟨Nat.le_of_ble_eq_true rfl, Nat.le_of_ble_eq_true rfl⟩) (fun r_h_3 h_3 => ?_)
    rcases h_3 with ⟨rfl, h_3⟩ | ⟨rfl, h_3⟩
    · refine lv_if_ne (tgt := 23) hx hb dX1_thing_17 (by decide) (fun c_4 => ?_) (fun c_4 => absurd c_4 (by decide))
      refine lv_aload_n hx hb dX1_thing_23 rfl (lv_at hl 0 rfl) ?_
      refine va_get (D := D) (ci := 4) (v := .int (S 6 0)) (C := RX1) (T := TX1) (N := 9) hx hb hts hinX1 hown hK hP 0 rfl rfl 5 (by decide) (hts (.fieldLink RX1 38 "LoanCases" "things" "I") (by decide +kernel)) (fun _ h9 => h9) rfl dX1_thing_24 ?_
      refine lv_bipush (v := 110) hx hb dX1_thing_27 (by decide) ?_
      refine lv_icmp_lt (tgt := 35) hx hb dX1_thing_29 (by decide) (fun c_5 => ?_) (fun c_5 => ?_)
      · refine lv_aload_n hx hb dX1_thing_35 rfl (lv_at hl 0 rfl) ?_
        refine lv_iload_n hx hb dX1_thing_36 rfl (lv_at hl 1 rfl) ?_
        refine lv_iload_n hx hb dX1_thing_37 rfl (lv_at hl 2 rfl) ?_
        refine lv_iconst (v := 0) hx hb dX1_thing_38 (by decide) ?_
        refine qw_i (w2 := []) (va_runV (As := [.int f, .int y, .int 0]) (rest := []) ⟨hx, hb, hml, hown, hts⟩ (c_X1_add l D kI kJ kL a q S N F B s.heap.size f y 0 n hn6 (by have h7 := c_5; rw [hn6] at h7; exact (nI_ltI (a := n) (b := 110) (by omega) (by omega)).mp h7) 0 rfl (by omega)) (cwV 3 hts gX1_thing_X1_add rfl rfl rfl (by decide +kernel) ⟨Nat.le_of_ble_eq_true rfl, Nat.le_of_ble_eq_true rfl⟩) (q_wV (w2 := []) hK hN (by rw [List.append_nil]; exact hP) (by rw [List.append_nil]; exact hD) (va_recv hK hP (ci := 4) (q0 := 0) rfl rfl)) rfl rfl hl.1 rfl (lv_room (Nat.le_of_ble_eq_true rfl)) dX1_thing_39 ⟨Nat.le_of_ble_eq_true rfl, Nat.le_of_ble_eq_true rfl⟩) (by rw [List.append_nil]; exact hP) (by rw [List.append_nil]; exact hD) hS hA (fun r_7 u_8 H locs h_6 hP hD hS => ?_)
        rw [List.append_nil] at hP hD
        obtain ⟨rfl, rfl⟩ := h_6
        have hP : va_P D vwCl (xW kI kL a q (xad S f y 0) N F B) H := hP
        have hD : va_D A (xW kI kL a q (xad S f y 0) N F B) := hD
        exact W.iret (v := (S 6 0)) hx hb hr (fun t9 ht hW => ⟨⟨(S 6 0), ((xad S f y 0), N), rfl, ⟨by simp only [xs_thing, cif_t h_1, cif_t h_3, cif_t c_5], by simp only [xs_thing, cif_t h_1, cif_t h_3, cif_t c_5]⟩, by rw [ht]; exact hP, va_K.moved hW.alike hK, by rw [hAe]; exact hD⟩, hS.F ht⟩) hS.2.2 dX1_thing_42
      · refine lv_bipush (v := -4) hx hb dX1_thing_32 (by decide) ?_
        exact W.iret (v := (-4)) hx hb hr (fun t9 ht hW => ⟨⟨(-4), (S, N), rfl, ⟨by simp only [xs_thing, cif_t h_1, cif_t h_3, cif_f c_5], by simp only [xs_thing, cif_t h_1, cif_t h_3, cif_f c_5]⟩, by rw [ht]; exact hP, va_K.moved hW.alike hK, by rw [hAe]; exact hD⟩, hS.F ht⟩) hS.2.2 dX1_thing_34
    · refine lv_if_ne (tgt := 23) hx hb dX1_thing_17 (by decide) (fun c_9 => absurd c_9 (by decide)) (fun c_9 => ?_)
      refine lv_bipush (v := -2) hx hb dX1_thing_20 (by decide) ?_
      exact W.iret (v := (-2)) hx hb hr (fun t9 ht hW => ⟨⟨(-2), (S, N), rfl, ⟨by simp only [xs_thing, cif_t h_1, cif_f h_3], by simp only [xs_thing, cif_t h_1, cif_f h_3]⟩, by rw [ht]; exact hP, va_K.moved hW.alike hK, by rw [hAe]; exact hD⟩, hS.F ht⟩) hS.2.2 dX1_thing_22
  · refine lv_if_eq (tgt := 20) hx hb dX1_thing_6 (by decide) (fun c_10 => ?_) (fun c_10 => absurd c_10 (by decide))
    refine lv_bipush (v := -2) hx hb dX1_thing_20 (by decide) ?_
    exact W.iret (v := (-2)) hx hb hr (fun t9 ht hW => ⟨⟨(-2), (S, N), rfl, ⟨by simp only [xs_thing, cif_f h_1], by simp only [xs_thing, cif_f h_1]⟩, by rw [ht]; exact hP, va_K.moved hW.alike hK, by rw [hAe]; exact hD⟩, hS.F ht⟩) hS.2.2 dX1_thing_22

set_option maxHeartbeats 4000000 in
set_option maxRecDepth 100000 in
theorem c_X1_makeCase (l : Launch) (D : va_G) (kI kJ kL : ClassId) (a q : Nat → Nat) (S : Nat → Nat → Int32) (N : Nat → Nat → Nat → Int32) (F : Nat → Option Nat) (B : Nat) (sz : Nat) (n : Nat) (hn6 : S 6 0 = nI n) (hn : n ≤ 110) : Met l yX1_makeCase wsX1_makeCase ({ frames := 2, cells := 0, slots := 0, locals := 48 }) (q_wP D (xTY kI kJ kL) (xW kI kL a q S N F B) sz [.ref (a 0)]) (va_Qi (fun r (u : (Nat → Nat → Int32) × (Nat → Nat → Nat → Int32)) => r = (xs_makeCase S ).1 ∧ u = ((xs_makeCase S ).2, N)) (q_wB D (xTY kI kJ kL) (xW kI kL a q S N F B) sz (fun u : (Nat → Nat → Int32) × (Nat → Nat → Nat → Int32) => xW kI kL a q u.1 u.2 F B)) (va_A (xW kI kL a q S N F B) sz)) 0 0 (va_A (xW kI kL a q S N F B) sz) := by
  refine Met.ofW (cc := cX1_makeCase) (maxL := 1) (ret := (some .int)) (by decide) rfl ?_
  intro p e s m args below meth c s₁ Bd hml hv
  obtain ⟨rfl, hsz, hP, hK, hD0, hN⟩ := hv
  have hx := Bd.exec
  have hb := Bd.bytes
  have hr := Bd.returns
  have hts := atoms_spec (ws := wsX1_makeCase) Bd.pre
  have hown : s.vm.findClass RX1 = some m.cls := findClass_of_methodNamed Bd.named
  have hlocks := Bd.notSynchronized
  subst hsz
  have hD := hD0.self (sz := s.heap.size)
  generalize hAe : va_A (xW kI kL a q S N F B) s.heap.size = A at hD ⊢
  have hA : ∀ q : Nat, s.heap.size ≤ q → A q := fun q h => by rw [← hAe]; exact Or.inr h
  have hS : va_S A s.heap s.heap [] := va_S.rf
  have hl := lv_entry ([.ref (a 0)]) (n := 1) (Nat.le_of_ble_eq_true rfl)
  rw [lg_entry_eq]
  generalize (lg_sl ([.ref (a 0)]) ++ List.replicate (1 - (lg_sl ([.ref (a 0)])).length) Slot.unset).toArray = ls at hl ⊢
  have hl : lv_has ls 1 [(0, .ref (a 0))] := hl
  have hinX1 : ∀ w ∈ u_ws RX1 TX1 9, w ∈ wsX1_makeCase := by decide +kernel
  refine lv_aload_n hx hb dX1_makeCase_0 rfl (lv_at hl 0 rfl) ?_
  refine va_get (D := D) (ci := 4) (v := .int (S 6 0)) (C := RX1) (T := TX1) (N := 9) hx hb hts hinX1 hown hK hP 0 rfl rfl 5 (by decide) (hts (.fieldLink RX1 38 "LoanCases" "things" "I") (by decide +kernel)) (fun _ h9 => h9) rfl dX1_makeCase_1 ?_
  refine lv_bipush (v := 110) hx hb dX1_makeCase_4 (by decide) ?_
  refine lv_icmp_lt (tgt := 12) hx hb dX1_makeCase_6 (by decide) (fun c_1 => ?_) (fun c_1 => ?_)
  · refine lv_aload_n hx hb dX1_makeCase_12 rfl (lv_at hl 0 rfl) ?_
    refine lv_bipush (v := 18) hx hb dX1_makeCase_13 (by decide) ?_
    refine lv_iconst (v := 0) hx hb dX1_makeCase_15 (by decide) ?_
    refine lv_iconst (v := 0) hx hb dX1_makeCase_16 (by decide) ?_
    refine qw_i (w2 := []) (va_runV (As := [.int 18, .int 0, .int 0]) (rest := []) ⟨hx, hb, hml, hown, hts⟩ (c_X1_add l D kI kJ kL a q S N F B s.heap.size 18 0 0 n hn6 (by have h7 := c_1; rw [hn6] at h7; exact (nI_ltI (a := n) (b := 110) (by omega) (by omega)).mp h7) 0 rfl (by omega)) (cwV 3 hts gX1_makeCase_X1_add rfl rfl rfl (by decide +kernel) ⟨Nat.le_of_ble_eq_true rfl, Nat.le_of_ble_eq_true rfl⟩) (q_wV (w2 := []) hK hN (by rw [List.append_nil]; exact hP) (by rw [List.append_nil]; exact hD) (va_recv hK hP (ci := 4) (q0 := 0) rfl rfl)) rfl rfl hl.1 rfl (lv_room (Nat.le_of_ble_eq_true rfl)) dX1_makeCase_17 ⟨Nat.le_of_ble_eq_true rfl, Nat.le_of_ble_eq_true rfl⟩) (by rw [List.append_nil]; exact hP) (by rw [List.append_nil]; exact hD) hS hA (fun r_3 u_4 H locs h_2 hP hD hS => ?_)
    rw [List.append_nil] at hP hD
    obtain ⟨rfl, rfl⟩ := h_2
    have hP : va_P D vwCl (xW kI kL a q (xad S 18 0 0) N F B) H := hP
    have hD : va_D A (xW kI kL a q (xad S 18 0 0) N F B) := hD
    exact W.iret (v := (S 6 0)) hx hb hr (fun t9 ht hW => ⟨⟨(S 6 0), ((xad S 18 0 0), N), rfl, ⟨by simp only [xs_makeCase, cif_t c_1], by simp only [xs_makeCase, cif_t c_1]⟩, by rw [ht]; exact hP, va_K.moved hW.alike hK, by rw [hAe]; exact hD⟩, hS.F ht⟩) hS.2.2 dX1_makeCase_20
  · refine lv_bipush (v := -4) hx hb dX1_makeCase_9 (by decide) ?_
    exact W.iret (v := (-4)) hx hb hr (fun t9 ht hW => ⟨⟨(-4), (S, N), rfl, ⟨by simp only [xs_makeCase, cif_f c_1], by simp only [xs_makeCase, cif_f c_1]⟩, by rw [ht]; exact hP, va_K.moved hW.alike hK, by rw [hAe]; exact hD⟩, hS.F ht⟩) hS.2.2 dX1_makeCase_11

set_option maxHeartbeats 4000000 in
set_option maxRecDepth 100000 in
theorem c_X1_row (l : Launch) (D : va_G) (kI kJ kL : ClassId) (a q : Nat → Nat) (S : Nat → Nat → Int32) (N : Nat → Nat → Nat → Int32) (F : Nat → Option Nat) (B : Nat) (sz : Nat) (f : Int32) (z : Int32) (n : Nat) (hn6 : S 6 0 = nI n) (hn : n ≤ 110) : Met l yX1_row wsX1_row ({ frames := 2, cells := 0, slots := 0, locals := 48 }) (q_wP D (xTY kI kJ kL) (xW kI kL a q S N F B) sz [.ref (a 0), .int f, .int z]) (va_Qi (fun r (u : (Nat → Nat → Int32) × (Nat → Nat → Nat → Int32)) => r = (xs_row S f z).1 ∧ u = ((xs_row S f z).2, N)) (q_wB D (xTY kI kJ kL) (xW kI kL a q S N F B) sz (fun u : (Nat → Nat → Int32) × (Nat → Nat → Nat → Int32) => xW kI kL a q u.1 u.2 F B)) (va_A (xW kI kL a q S N F B) sz)) 0 0 (va_A (xW kI kL a q S N F B) sz) := by
  refine Met.ofW (cc := cX1_row) (maxL := 3) (ret := (some .int)) (by decide) rfl ?_
  intro p e s m args below meth c s₁ Bd hml hv
  obtain ⟨rfl, hsz, hP, hK, hD0, hN⟩ := hv
  have hx := Bd.exec
  have hb := Bd.bytes
  have hr := Bd.returns
  have hts := atoms_spec (ws := wsX1_row) Bd.pre
  have hown : s.vm.findClass RX1 = some m.cls := findClass_of_methodNamed Bd.named
  have hlocks := Bd.notSynchronized
  subst hsz
  have hD := hD0.self (sz := s.heap.size)
  generalize hAe : va_A (xW kI kL a q S N F B) s.heap.size = A at hD ⊢
  have hA : ∀ q : Nat, s.heap.size ≤ q → A q := fun q h => by rw [← hAe]; exact Or.inr h
  have hS : va_S A s.heap s.heap [] := va_S.rf
  have hl := lv_entry ([.ref (a 0), .int f, .int z]) (n := 3) (Nat.le_of_ble_eq_true rfl)
  rw [lg_entry_eq]
  generalize (lg_sl ([.ref (a 0), .int f, .int z]) ++ List.replicate (3 - (lg_sl ([.ref (a 0), .int f, .int z])).length) Slot.unset).toArray = ls at hl ⊢
  have hl : lv_has ls 3 [(0, .ref (a 0)), (1, .int f), (2, .int z)] := hl
  have hinX1 : ∀ w ∈ u_ws RX1 TX1 9, w ∈ wsX1_row := by decide +kernel
  refine lv_iload_n hx hb dX1_row_0 rfl (lv_at hl 1 rfl) ?_
  refine lv_iconst (v := 5) hx hb dX1_row_1 (by decide) ?_
  refine lv_bipush (v := 17) hx hb dX1_row_2 (by decide) ?_
  refine vp_callSi (W.runS (As := [.int f, .int 5, .int 17]) (rest := []) ⟨hx, hb, hml, hown, hts⟩ (c_X1_between l D kI kJ kL f 5 17) (va_cwS 3 hts gX1_row_X1_between rfl rfl rfl (by decide +kernel) ⟨Nat.le_of_ble_eq_true rfl, Nat.le_of_ble_eq_true rfl⟩) (q_rS0 hK hN) rfl rfl hl.1 rfl (lv_room (Nat.le_of_ble_eq_true rfl)) dX1_row_4 ⟨Nat.le_of_ble_eq_true rfl, Nat.le_of_ble_eq_true rfl⟩) (fun r_h_1 h_1 => ?_)
  rcases h_1 with ⟨rfl, h_1⟩ | ⟨rfl, h_1⟩
  · refine lv_if_eq (tgt := 16) hx hb dX1_row_7 (by decide) (fun c_2 => absurd c_2 (by decide)) (fun c_2 => ?_)
    refine lv_iload_n hx hb dX1_row_10 rfl (lv_at hl 2 rfl) ?_
    refine lv_bipush (v := 10) hx hb dX1_row_11 (by decide) ?_
    refine lv_icmp_le (tgt := 19) hx hb dX1_row_13 (by decide) (fun c_3 => ?_) (fun c_3 => ?_)
    · refine lv_aload_n hx hb dX1_row_19 rfl (lv_at hl 0 rfl) ?_
      refine va_get (D := D) (ci := 4) (v := .int (S 6 0)) (C := RX1) (T := TX1) (N := 9) hx hb hts hinX1 hown hK hP 0 rfl rfl 5 (by decide) (hts (.fieldLink RX1 38 "LoanCases" "things" "I") (by decide +kernel)) (fun _ h9 => h9) rfl dX1_row_20 ?_
      refine lv_bipush (v := 110) hx hb dX1_row_23 (by decide) ?_
      refine lv_icmp_lt (tgt := 31) hx hb dX1_row_25 (by decide) (fun c_4 => ?_) (fun c_4 => ?_)
      · refine lv_iload_n hx hb dX1_row_31 rfl (lv_at hl 2 rfl) ?_
        refine lv_if_ge (tgt := 41) hx hb dX1_row_32 (by decide) (fun c_5 => ?_) (fun c_5 => ?_)
        · obtain ⟨zz, hzz, hz⟩ : ∃ zz : Nat, zz ≤ 10 ∧ z = nI zz := nI_of2 (M := 10) (by decide) (Int32.not_lt.mpr c_5) c_3
          refine lv_aload_n hx hb dX1_row_41 rfl (lv_at hl 0 rfl) ?_
          refine lv_iload_n hx hb dX1_row_42 rfl (lv_at hl 1 rfl) ?_
          refine lv_iconst (v := 0) hx hb dX1_row_43 (by decide) ?_
          refine lv_iload_n hx hb dX1_row_44 rfl (lv_at hl 2 rfl) ?_
          refine qw_i (w2 := []) (va_runV (As := [.int f, .int 0, .int z]) (rest := []) ⟨hx, hb, hml, hown, hts⟩ (c_X1_add l D kI kJ kL a q S N F B s.heap.size f 0 z n hn6 (by have h7 := c_4; rw [hn6] at h7; exact (nI_ltI (a := n) (b := 110) (by omega) (by omega)).mp h7) zz hz hzz) (cwV 3 hts gX1_row_X1_add rfl rfl rfl (by decide +kernel) ⟨Nat.le_of_ble_eq_true rfl, Nat.le_of_ble_eq_true rfl⟩) (q_wV (w2 := []) hK hN (by rw [List.append_nil]; exact hP) (by rw [List.append_nil]; exact hD) (va_recv hK hP (ci := 4) (q0 := 0) rfl rfl)) rfl rfl hl.1 rfl (lv_room (Nat.le_of_ble_eq_true rfl)) dX1_row_45 ⟨Nat.le_of_ble_eq_true rfl, Nat.le_of_ble_eq_true rfl⟩) (by rw [List.append_nil]; exact hP) (by rw [List.append_nil]; exact hD) hS hA (fun r_7 u_8 H locs h_6 hP hD hS => ?_)
          rw [List.append_nil] at hP hD
          obtain ⟨rfl, rfl⟩ := h_6
          have hP : va_P D vwCl (xW kI kL a q (xad S f 0 z) N F B) H := hP
          have hD : va_D A (xW kI kL a q (xad S f 0 z) N F B) := hD
          exact W.iret (v := (S 6 0)) hx hb hr (fun t9 ht hW => ⟨⟨(S 6 0), ((xad S f 0 z), N), rfl, ⟨by simp only [xs_row, cif_t h_1, cif_t c_3, cif_t c_4, cif_t c_5], by simp only [xs_row, cif_t h_1, cif_t c_3, cif_t c_4, cif_t c_5]⟩, by rw [ht]; exact hP, va_K.moved hW.alike hK, by rw [hAe]; exact hD⟩, hS.F ht⟩) hS.2.2 dX1_row_48
        · refine lv_aload_n hx hb dX1_row_35 rfl (lv_at hl 0 rfl) ?_
          refine lv_iconst (v := 5) hx hb dX1_row_36 (by decide) ?_
          refine qw_i (w2 := []) (va_runV (As := [.int 5]) (rest := []) ⟨hx, hb, hml, hown, hts⟩ (c_X1_found l D kI kJ kL a q S N F B s.heap.size 5 (by unfold vp_in; decide)) (cwV 1 hts gX1_row_X1_found rfl rfl rfl (by decide +kernel) ⟨Nat.le_of_ble_eq_true rfl, Nat.le_of_ble_eq_true rfl⟩) (q_wV (w2 := []) hK hN (by rw [List.append_nil]; exact hP) (by rw [List.append_nil]; exact hD) (va_recv hK hP (ci := 4) (q0 := 0) rfl rfl)) rfl rfl hl.1 rfl (lv_room (Nat.le_of_ble_eq_true rfl)) dX1_row_37 ⟨Nat.le_of_ble_eq_true rfl, Nat.le_of_ble_eq_true rfl⟩) (by rw [List.append_nil]; exact hP) (by rw [List.append_nil]; exact hD) hS hA (fun r_10 u_11 H locs h_9 hP hD hS => ?_)
          rw [List.append_nil] at hP hD
          obtain ⟨rfl, rfl⟩ := h_9
          have hP : va_P D vwCl (xW kI kL a q (xfd S 5) N F B) H := hP
          have hD : va_D A (xW kI kL a q (xfd S 5) N F B) := hD
          exact W.iret (v := (-30 - 5)) hx hb hr (fun t9 ht hW => ⟨⟨(-30 - 5), ((xfd S 5), N), rfl, ⟨by simp only [xs_row, cif_t h_1, cif_t c_3, cif_t c_4, cif_f c_5], by simp only [xs_row, cif_t h_1, cif_t c_3, cif_t c_4, cif_f c_5]⟩, by rw [ht]; exact hP, va_K.moved hW.alike hK, by rw [hAe]; exact hD⟩, hS.F ht⟩) hS.2.2 dX1_row_40
      · refine lv_bipush (v := -4) hx hb dX1_row_28 (by decide) ?_
        exact W.iret (v := (-4)) hx hb hr (fun t9 ht hW => ⟨⟨(-4), (S, N), rfl, ⟨by simp only [xs_row, cif_t h_1, cif_t c_3, cif_f c_4], by simp only [xs_row, cif_t h_1, cif_t c_3, cif_f c_4]⟩, by rw [ht]; exact hP, va_K.moved hW.alike hK, by rw [hAe]; exact hD⟩, hS.F ht⟩) hS.2.2 dX1_row_30
    · refine lv_bipush (v := -2) hx hb dX1_row_16 (by decide) ?_
      exact W.iret (v := (-2)) hx hb hr (fun t9 ht hW => ⟨⟨(-2), (S, N), rfl, ⟨by simp only [xs_row, cif_t h_1, cif_f c_3], by simp only [xs_row, cif_t h_1, cif_f c_3]⟩, by rw [ht]; exact hP, va_K.moved hW.alike hK, by rw [hAe]; exact hD⟩, hS.F ht⟩) hS.2.2 dX1_row_18
  · refine lv_if_eq (tgt := 16) hx hb dX1_row_7 (by decide) (fun c_12 => ?_) (fun c_12 => absurd c_12 (by decide))
    refine lv_bipush (v := -2) hx hb dX1_row_16 (by decide) ?_
    exact W.iret (v := (-2)) hx hb hr (fun t9 ht hW => ⟨⟨(-2), (S, N), rfl, ⟨by simp only [xs_row, cif_f h_1], by simp only [xs_row, cif_f h_1]⟩, by rw [ht]; exact hP, va_K.moved hW.alike hK, by rw [hAe]; exact hD⟩, hS.F ht⟩) hS.2.2 dX1_row_18

set_option maxHeartbeats 4000000 in
set_option maxRecDepth 100000 in
theorem c_X1_worth (l : Launch) (D : va_G) (kI kJ kL : ClassId) (a q : Nat → Nat) (S : Nat → Nat → Int32) (N : Nat → Nat → Nat → Int32) (F : Nat → Option Nat) (B : Nat) (sz : Nat) (t : Int32) (k : Int32) (hn : (S 6 0).toInt ≤ 110) : Met l yX1_worth wsX1_worth ({ frames := 2, cells := 0, slots := 0, locals := 43 }) (q_wP D (xTY kI kJ kL) (xW kI kL a q S N F B) sz [.ref (a 0), .int t, .int k]) (va_Qi (fun r (u : (Nat → Nat → Int32) × (Nat → Nat → Nat → Int32)) => r = (xs_worth S t k).1 ∧ u = ((xs_worth S t k).2, N)) (q_wB D (xTY kI kJ kL) (xW kI kL a q S N F B) sz (fun u : (Nat → Nat → Int32) × (Nat → Nat → Nat → Int32) => xW kI kL a q u.1 u.2 F B)) (va_A (xW kI kL a q S N F B) sz)) 0 0 (va_A (xW kI kL a q S N F B) sz) := by
  refine Met.ofW (cc := cX1_worth) (maxL := 3) (ret := (some .int)) (by decide) rfl ?_
  intro p e s m args below meth c s₁ Bd hml hv
  obtain ⟨rfl, hsz, hP, hK, hD0, hN⟩ := hv
  have hx := Bd.exec
  have hb := Bd.bytes
  have hr := Bd.returns
  have hts := atoms_spec (ws := wsX1_worth) Bd.pre
  have hown : s.vm.findClass RX1 = some m.cls := findClass_of_methodNamed Bd.named
  have hlocks := Bd.notSynchronized
  subst hsz
  have hD := hD0.self (sz := s.heap.size)
  generalize hAe : va_A (xW kI kL a q S N F B) s.heap.size = A at hD ⊢
  have hA : ∀ q : Nat, s.heap.size ≤ q → A q := fun q h => by rw [← hAe]; exact Or.inr h
  have hS : va_S A s.heap s.heap [] := va_S.rf
  have hl := lv_entry ([.ref (a 0), .int t, .int k]) (n := 3) (Nat.le_of_ble_eq_true rfl)
  rw [lg_entry_eq]
  generalize (lg_sl ([.ref (a 0), .int t, .int k]) ++ List.replicate (3 - (lg_sl ([.ref (a 0), .int t, .int k])).length) Slot.unset).toArray = ls at hl ⊢
  have hl : lv_has ls 3 [(0, .ref (a 0)), (1, .int t), (2, .int k)] := hl
  have hinX1 : ∀ w ∈ u_ws RX1 TX1 9, w ∈ wsX1_worth := by decide +kernel
  refine lv_aload_n hx hb dX1_worth_0 rfl (lv_at hl 0 rfl) ?_
  refine lv_iload_n hx hb dX1_worth_1 rfl (lv_at hl 1 rfl) ?_
  refine vp_callSi (W.runV (As := [.int t]) (rest := []) ⟨hx, hb, hml, hown, hts⟩ (c_X1_isThing l D kI kJ kL a q S N F B t) (cwV 1 hts gX1_worth_X1_isThing rfl rfl rfl (by decide +kernel) ⟨Nat.le_of_ble_eq_true rfl, Nat.le_of_ble_eq_true rfl⟩) (q_rV (w2 := []) hK hN (by rw [List.append_nil]; exact hP) (va_recv hK hP (ci := 4) (q0 := 0) rfl rfl)) rfl rfl hl.1 rfl (lv_room (Nat.le_of_ble_eq_true rfl)) dX1_worth_2 ⟨Nat.le_of_ble_eq_true rfl, Nat.le_of_ble_eq_true rfl⟩) (fun r_h_1 h_1 => ?_)
  rcases h_1 with ⟨rfl, h_1⟩ | ⟨rfl, h_1⟩
  · refine lv_if_ne (tgt := 10) hx hb dX1_worth_5 (by decide) (fun c_2 => ?_) (fun c_2 => absurd c_2 (by decide))
    refine lv_iload_n hx hb dX1_worth_10 rfl (lv_at hl 2 rfl) ?_
    refine lv_iconst (v := 0) hx hb dX1_worth_11 (by decide) ?_
    refine lv_iconst (v := 3) hx hb dX1_worth_12 (by decide) ?_
    refine vp_callSi (W.runS (As := [.int k, .int 0, .int 3]) (rest := []) ⟨hx, hb, hml, hown, hts⟩ (c_X1_between l D kI kJ kL k 0 3) (va_cwS 3 hts gX1_worth_X1_between rfl rfl rfl (by decide +kernel) ⟨Nat.le_of_ble_eq_true rfl, Nat.le_of_ble_eq_true rfl⟩) (q_rS0 hK hN) rfl rfl hl.1 rfl (lv_room (Nat.le_of_ble_eq_true rfl)) dX1_worth_13 ⟨Nat.le_of_ble_eq_true rfl, Nat.le_of_ble_eq_true rfl⟩) (fun r_h_3 h_3 => ?_)
    rcases h_3 with ⟨rfl, h_3⟩ | ⟨rfl, h_3⟩
    · refine lv_if_ne (tgt := 22) hx hb dX1_worth_16 (by decide) (fun c_4 => ?_) (fun c_4 => absurd c_4 (by decide))
      refine lv_aload_n hx hb dX1_worth_22 rfl (lv_at hl 0 rfl) ?_
      refine lv_iload_n hx hb dX1_worth_23 rfl (lv_at hl 1 rfl) ?_
      refine lv_iload_n hx hb dX1_worth_24 rfl (lv_at hl 2 rfl) ?_
      refine vp_callSi (W.runV (As := [.int t, .int k]) (rest := []) ⟨hx, hb, hml, hown, hts⟩ (c_X1_isOf l D kI kJ kL a q S N F B t k hn) (cwV 2 hts gX1_worth_X1_isOf rfl rfl rfl (by decide +kernel) ⟨Nat.le_of_ble_eq_true rfl, Nat.le_of_ble_eq_true rfl⟩) (q_rV (w2 := []) hK hN (by rw [List.append_nil]; exact hP) (va_recv hK hP (ci := 4) (q0 := 0) rfl rfl)) rfl rfl hl.1 rfl (lv_room (Nat.le_of_ble_eq_true rfl)) dX1_worth_25 ⟨Nat.le_of_ble_eq_true rfl, Nat.le_of_ble_eq_true rfl⟩) (fun r_h_5 h_5 => ?_)
      rcases h_5 with ⟨rfl, h_5⟩ | ⟨rfl, h_5⟩
      · refine lv_if_ne (tgt := 37) hx hb dX1_worth_28 (by decide) (fun c_6 => ?_) (fun c_6 => absurd c_6 (by decide))
        refine lv_aload_n hx hb dX1_worth_37 rfl (lv_at hl 0 rfl) ?_
        refine va_get (D := D) (ci := 4) (v := .ref (a 1)) (C := RX1) (T := TX1) (N := 9) hx hb hts hinX1 hown hK hP 0 rfl rfl 0 (by decide) (hts (.fieldLink RX1 9 "LoanCases" "forms" "[I") (by decide +kernel)) (fun _ h9 => h9) rfl dX1_worth_38 ?_
        refine lv_iload_n hx hb dX1_worth_41 rfl (lv_at hl 1 rfl) ?_
        refine va_iald (f := S 0) hx hb hK hP 1 0 rfl rfl (xT_in hn h_1) dX1_worth_42 ?_
        refine lv_aload_n hx hb dX1_worth_43 rfl (lv_at hl 0 rfl) ?_
        refine va_get (D := D) (ci := 4) (v := .ref (a 2)) (C := RX1) (T := TX1) (N := 9) hx hb hts hinX1 hown hK hP 0 rfl rfl 1 (by decide) (hts (.fieldLink RX1 13 "LoanCases" "years" "[I") (by decide +kernel)) (fun _ h9 => h9) rfl dX1_worth_44 ?_
        refine lv_iload_n hx hb dX1_worth_47 rfl (lv_at hl 1 rfl) ?_
        refine va_iald (f := S 1) hx hb hK hP 2 0 rfl rfl (xT_in hn h_1) dX1_worth_48 ?_
        refine vp_callSi (W.runS (As := [.int (S 0 t.toNatClampNeg), .int (S 1 t.toNatClampNeg)]) (rest := []) ⟨hx, hb, hml, hown, hts⟩ (c_X1_worthOf l D kI kJ kL (S 0 t.toNatClampNeg) (S 1 t.toNatClampNeg)) (va_cwS 2 hts gX1_worth_X1_worthOf rfl rfl rfl (by decide +kernel) ⟨Nat.le_of_ble_eq_true rfl, Nat.le_of_ble_eq_true rfl⟩) (q_rS0 hK hN) rfl rfl hl.1 rfl (lv_room (Nat.le_of_ble_eq_true rfl)) dX1_worth_49 ⟨Nat.le_of_ble_eq_true rfl, Nat.le_of_ble_eq_true rfl⟩) (fun r_8 h_7 => ?_)
        subst h_7
        exact W.iret (v := (xwo (S 0 t.toNatClampNeg) (S 1 t.toNatClampNeg))) hx hb hr (fun t9 ht hW => ⟨⟨(xwo (S 0 t.toNatClampNeg) (S 1 t.toNatClampNeg)), (S, N), rfl, ⟨by simp only [xs_worth, cif_t h_1, cif_t h_3, cif_t h_5], by simp only [xs_worth, cif_t h_1, cif_t h_3, cif_t h_5]⟩, by rw [ht]; exact hP, va_K.moved hW.alike hK, by rw [hAe]; exact hD⟩, hS.F ht⟩) hS.2.2 dX1_worth_52
      · refine lv_if_ne (tgt := 37) hx hb dX1_worth_28 (by decide) (fun c_9 => absurd c_9 (by decide)) (fun c_9 => ?_)
        refine lv_aload_n hx hb dX1_worth_31 rfl (lv_at hl 0 rfl) ?_
        refine lv_iconst (v := 1) hx hb dX1_worth_32 (by decide) ?_
        refine qw_i (w2 := []) (va_runV (As := [.int 1]) (rest := []) ⟨hx, hb, hml, hown, hts⟩ (c_X1_found l D kI kJ kL a q S N F B s.heap.size 1 (by unfold vp_in; decide)) (cwV 1 hts gX1_worth_X1_found rfl rfl rfl (by decide +kernel) ⟨Nat.le_of_ble_eq_true rfl, Nat.le_of_ble_eq_true rfl⟩) (q_wV (w2 := []) hK hN (by rw [List.append_nil]; exact hP) (by rw [List.append_nil]; exact hD) (va_recv hK hP (ci := 4) (q0 := 0) rfl rfl)) rfl rfl hl.1 rfl (lv_room (Nat.le_of_ble_eq_true rfl)) dX1_worth_33 ⟨Nat.le_of_ble_eq_true rfl, Nat.le_of_ble_eq_true rfl⟩) (by rw [List.append_nil]; exact hP) (by rw [List.append_nil]; exact hD) hS hA (fun r_11 u_12 H locs h_10 hP hD hS => ?_)
        rw [List.append_nil] at hP hD
        obtain ⟨rfl, rfl⟩ := h_10
        have hP : va_P D vwCl (xW kI kL a q (xfd S 1) N F B) H := hP
        have hD : va_D A (xW kI kL a q (xfd S 1) N F B) := hD
        exact W.iret (v := (-30 - 1)) hx hb hr (fun t9 ht hW => ⟨⟨(-30 - 1), ((xfd S 1), N), rfl, ⟨by simp only [xs_worth, cif_t h_1, cif_t h_3, cif_f h_5], by simp only [xs_worth, cif_t h_1, cif_t h_3, cif_f h_5]⟩, by rw [ht]; exact hP, va_K.moved hW.alike hK, by rw [hAe]; exact hD⟩, hS.F ht⟩) hS.2.2 dX1_worth_36
    · refine lv_if_ne (tgt := 22) hx hb dX1_worth_16 (by decide) (fun c_13 => absurd c_13 (by decide)) (fun c_13 => ?_)
      refine lv_bipush (v := -2) hx hb dX1_worth_19 (by decide) ?_
      exact W.iret (v := (-2)) hx hb hr (fun t9 ht hW => ⟨⟨(-2), (S, N), rfl, ⟨by simp only [xs_worth, cif_t h_1, cif_f h_3], by simp only [xs_worth, cif_t h_1, cif_f h_3]⟩, by rw [ht]; exact hP, va_K.moved hW.alike hK, by rw [hAe]; exact hD⟩, hS.F ht⟩) hS.2.2 dX1_worth_21
  · refine lv_if_ne (tgt := 10) hx hb dX1_worth_5 (by decide) (fun c_14 => absurd c_14 (by decide)) (fun c_14 => ?_)
    refine lv_iconst (v := -1) hx hb dX1_worth_8 (by decide) ?_
    exact W.iret (v := (-1)) hx hb hr (fun t9 ht hW => ⟨⟨(-1), (S, N), rfl, ⟨by simp only [xs_worth, cif_f h_1], by simp only [xs_worth, cif_f h_1]⟩, by rw [ht]; exact hP, va_K.moved hW.alike hK, by rw [hAe]; exact hD⟩, hS.F ht⟩) hS.2.2 dX1_worth_9

set_option maxHeartbeats 4000000 in
set_option maxRecDepth 100000 in
theorem c_X1_date (l : Launch) (D : va_G) (kI kJ kL : ClassId) (a q : Nat → Nat) (S : Nat → Nat → Int32) (N : Nat → Nat → Nat → Int32) (F : Nat → Option Nat) (B : Nat) (sz : Nat) (t : Int32) (hn : (S 6 0).toInt ≤ 110) : Met l yX1_date wsX1_date ({ frames := 2, cells := 0, slots := 0, locals := 43 }) (q_wP D (xTY kI kJ kL) (xW kI kL a q S N F B) sz [.ref (a 0), .int t]) (va_Qi (fun r (u : (Nat → Nat → Int32) × (Nat → Nat → Nat → Int32)) => r = (xs_date S t).1 ∧ u = ((xs_date S t).2, N)) (q_wB D (xTY kI kJ kL) (xW kI kL a q S N F B) sz (fun u : (Nat → Nat → Int32) × (Nat → Nat → Nat → Int32) => xW kI kL a q u.1 u.2 F B)) (va_A (xW kI kL a q S N F B) sz)) 0 0 (va_A (xW kI kL a q S N F B) sz) := by
  refine Met.ofW (cc := cX1_date) (maxL := 2) (ret := (some .int)) (by decide) rfl ?_
  intro p e s m args below meth c s₁ Bd hml hv
  obtain ⟨rfl, hsz, hP, hK, hD0, hN⟩ := hv
  have hx := Bd.exec
  have hb := Bd.bytes
  have hr := Bd.returns
  have hts := atoms_spec (ws := wsX1_date) Bd.pre
  have hown : s.vm.findClass RX1 = some m.cls := findClass_of_methodNamed Bd.named
  have hlocks := Bd.notSynchronized
  subst hsz
  have hD := hD0.self (sz := s.heap.size)
  generalize hAe : va_A (xW kI kL a q S N F B) s.heap.size = A at hD ⊢
  have hA : ∀ q : Nat, s.heap.size ≤ q → A q := fun q h => by rw [← hAe]; exact Or.inr h
  have hS : va_S A s.heap s.heap [] := va_S.rf
  have hl := lv_entry ([.ref (a 0), .int t]) (n := 2) (Nat.le_of_ble_eq_true rfl)
  rw [lg_entry_eq]
  generalize (lg_sl ([.ref (a 0), .int t]) ++ List.replicate (2 - (lg_sl ([.ref (a 0), .int t])).length) Slot.unset).toArray = ls at hl ⊢
  have hl : lv_has ls 2 [(0, .ref (a 0)), (1, .int t)] := hl
  have hinX1 : ∀ w ∈ u_ws RX1 TX1 9, w ∈ wsX1_date := by decide +kernel
  refine lv_aload_n hx hb dX1_date_0 rfl (lv_at hl 0 rfl) ?_
  refine lv_iload_n hx hb dX1_date_1 rfl (lv_at hl 1 rfl) ?_
  refine vp_callSi (W.runV (As := [.int t]) (rest := []) ⟨hx, hb, hml, hown, hts⟩ (c_X1_isThing l D kI kJ kL a q S N F B t) (cwV 1 hts gX1_date_X1_isThing rfl rfl rfl (by decide +kernel) ⟨Nat.le_of_ble_eq_true rfl, Nat.le_of_ble_eq_true rfl⟩) (q_rV (w2 := []) hK hN (by rw [List.append_nil]; exact hP) (va_recv hK hP (ci := 4) (q0 := 0) rfl rfl)) rfl rfl hl.1 rfl (lv_room (Nat.le_of_ble_eq_true rfl)) dX1_date_2 ⟨Nat.le_of_ble_eq_true rfl, Nat.le_of_ble_eq_true rfl⟩) (fun r_h_1 h_1 => ?_)
  rcases h_1 with ⟨rfl, h_1⟩ | ⟨rfl, h_1⟩
  · refine lv_if_ne (tgt := 10) hx hb dX1_date_5 (by decide) (fun c_2 => ?_) (fun c_2 => absurd c_2 (by decide))
    refine lv_aload_n hx hb dX1_date_10 rfl (lv_at hl 0 rfl) ?_
    refine lv_iload_n hx hb dX1_date_11 rfl (lv_at hl 1 rfl) ?_
    refine lv_bipush (v := 19) hx hb dX1_date_12 (by decide) ?_
    refine vp_callSi (W.runV (As := [.int t, .int 19]) (rest := []) ⟨hx, hb, hml, hown, hts⟩ (c_X1_isOf l D kI kJ kL a q S N F B t 19 hn) (cwV 2 hts gX1_date_X1_isOf rfl rfl rfl (by decide +kernel) ⟨Nat.le_of_ble_eq_true rfl, Nat.le_of_ble_eq_true rfl⟩) (q_rV (w2 := []) hK hN (by rw [List.append_nil]; exact hP) (va_recv hK hP (ci := 4) (q0 := 0) rfl rfl)) rfl rfl hl.1 rfl (lv_room (Nat.le_of_ble_eq_true rfl)) dX1_date_14 ⟨Nat.le_of_ble_eq_true rfl, Nat.le_of_ble_eq_true rfl⟩) (fun r_h_3 h_3 => ?_)
    rcases h_3 with ⟨rfl, h_3⟩ | ⟨rfl, h_3⟩
    · refine lv_if_ne (tgt := 26) hx hb dX1_date_17 (by decide) (fun c_4 => ?_) (fun c_4 => absurd c_4 (by decide))
      refine lv_aload_n hx hb dX1_date_26 rfl (lv_at hl 0 rfl) ?_
      refine va_get (D := D) (ci := 4) (v := .ref (a 1)) (C := RX1) (T := TX1) (N := 9) hx hb hts hinX1 hown hK hP 0 rfl rfl 0 (by decide) (hts (.fieldLink RX1 9 "LoanCases" "forms" "[I") (by decide +kernel)) (fun _ h9 => h9) rfl dX1_date_27 ?_
      refine lv_iload_n hx hb dX1_date_30 rfl (lv_at hl 1 rfl) ?_
      refine va_iald (f := S 0) hx hb hK hP 1 0 rfl rfl (xT_in hn h_1) dX1_date_31 ?_
      refine lv_iconst (v := 2) hx hb dX1_date_32 (by decide) ?_
      refine lv_icmp_ne (tgt := 47) hx hb dX1_date_33 (by decide) (fun c_5 => ?_) (fun c_5 => ?_)
      · refine lv_aload_n hx hb dX1_date_47 rfl (lv_at hl 0 rfl) ?_
        refine va_get (D := D) (ci := 4) (v := .ref (a 2)) (C := RX1) (T := TX1) (N := 9) hx hb hts hinX1 hown hK hP 0 rfl rfl 1 (by decide) (hts (.fieldLink RX1 13 "LoanCases" "years" "[I") (by decide +kernel)) (fun _ h9 => h9) rfl dX1_date_48 ?_
        refine lv_iload_n hx hb dX1_date_51 rfl (lv_at hl 1 rfl) ?_
        refine va_iald (f := S 1) hx hb hK hP 2 0 rfl rfl (xT_in hn h_1) dX1_date_52 ?_
        refine lv_iconst (v := 1) hx hb dX1_date_53 (by decide) ?_
        refine lv_isub hx hb dX1_date_54 ?_
        exact W.iret (v := ((S 1 t.toNatClampNeg) - 1)) hx hb hr (fun t9 ht hW => ⟨⟨((S 1 t.toNatClampNeg) - 1), (S, N), rfl, ⟨by simp only [xs_date, cif_t h_1, cif_t h_3, cif_f c_5], by simp only [xs_date, cif_t h_1, cif_t h_3, cif_f c_5]⟩, by rw [ht]; exact hP, va_K.moved hW.alike hK, by rw [hAe]; exact hD⟩, hS.F ht⟩) hS.2.2 dX1_date_55
      · refine lv_aload_n hx hb dX1_date_36 rfl (lv_at hl 0 rfl) ?_
        refine va_get (D := D) (ci := 4) (v := .ref (a 2)) (C := RX1) (T := TX1) (N := 9) hx hb hts hinX1 hown hK hP 0 rfl rfl 1 (by decide) (hts (.fieldLink RX1 13 "LoanCases" "years" "[I") (by decide +kernel)) (fun _ h9 => h9) rfl dX1_date_37 ?_
        refine lv_iload_n hx hb dX1_date_40 rfl (lv_at hl 1 rfl) ?_
        refine va_iald (f := S 1) hx hb hK hP 2 0 rfl rfl (xT_in hn h_1) dX1_date_41 ?_
        refine lv_iconst (v := 1) hx hb dX1_date_42 (by decide) ?_
        refine lv_iadd hx hb dX1_date_43 ?_
        refine lv_goto (tgt := 55) hx hb dX1_date_44 (by decide) ?_
        exact W.iret (v := ((S 1 t.toNatClampNeg) + 1)) hx hb hr (fun t9 ht hW => ⟨⟨((S 1 t.toNatClampNeg) + 1), (S, N), rfl, ⟨by simp only [xs_date, cif_t h_1, cif_t h_3, cif_t c_5], by simp only [xs_date, cif_t h_1, cif_t h_3, cif_t c_5]⟩, by rw [ht]; exact hP, va_K.moved hW.alike hK, by rw [hAe]; exact hD⟩, hS.F ht⟩) hS.2.2 dX1_date_55
    · refine lv_if_ne (tgt := 26) hx hb dX1_date_17 (by decide) (fun c_6 => absurd c_6 (by decide)) (fun c_6 => ?_)
      refine lv_aload_n hx hb dX1_date_20 rfl (lv_at hl 0 rfl) ?_
      refine lv_iconst (v := 1) hx hb dX1_date_21 (by decide) ?_
      refine qw_i (w2 := []) (va_runV (As := [.int 1]) (rest := []) ⟨hx, hb, hml, hown, hts⟩ (c_X1_found l D kI kJ kL a q S N F B s.heap.size 1 (by unfold vp_in; decide)) (cwV 1 hts gX1_date_X1_found rfl rfl rfl (by decide +kernel) ⟨Nat.le_of_ble_eq_true rfl, Nat.le_of_ble_eq_true rfl⟩) (q_wV (w2 := []) hK hN (by rw [List.append_nil]; exact hP) (by rw [List.append_nil]; exact hD) (va_recv hK hP (ci := 4) (q0 := 0) rfl rfl)) rfl rfl hl.1 rfl (lv_room (Nat.le_of_ble_eq_true rfl)) dX1_date_22 ⟨Nat.le_of_ble_eq_true rfl, Nat.le_of_ble_eq_true rfl⟩) (by rw [List.append_nil]; exact hP) (by rw [List.append_nil]; exact hD) hS hA (fun r_8 u_9 H locs h_7 hP hD hS => ?_)
      rw [List.append_nil] at hP hD
      obtain ⟨rfl, rfl⟩ := h_7
      have hP : va_P D vwCl (xW kI kL a q (xfd S 1) N F B) H := hP
      have hD : va_D A (xW kI kL a q (xfd S 1) N F B) := hD
      exact W.iret (v := (-30 - 1)) hx hb hr (fun t9 ht hW => ⟨⟨(-30 - 1), ((xfd S 1), N), rfl, ⟨by simp only [xs_date, cif_t h_1, cif_f h_3], by simp only [xs_date, cif_t h_1, cif_f h_3]⟩, by rw [ht]; exact hP, va_K.moved hW.alike hK, by rw [hAe]; exact hD⟩, hS.F ht⟩) hS.2.2 dX1_date_25
  · refine lv_if_ne (tgt := 10) hx hb dX1_date_5 (by decide) (fun c_10 => absurd c_10 (by decide)) (fun c_10 => ?_)
    refine lv_iconst (v := -1) hx hb dX1_date_8 (by decide) ?_
    exact W.iret (v := (-1)) hx hb hr (fun t9 ht hW => ⟨⟨(-1), (S, N), rfl, ⟨by simp only [xs_date, cif_f h_1], by simp only [xs_date, cif_f h_1]⟩, by rw [ht]; exact hP, va_K.moved hW.alike hK, by rw [hAe]; exact hD⟩, hS.F ht⟩) hS.2.2 dX1_date_9

set_option maxHeartbeats 4000000 in
set_option maxRecDepth 100000 in
theorem c_X1_size (l : Launch) (D : va_G) (kI kJ kL : ClassId) (a q : Nat → Nat) (S : Nat → Nat → Int32) (N : Nat → Nat → Nat → Int32) (F : Nat → Option Nat) (B : Nat) (sz : Nat) (t : Int32) (k : Int32) (hn : (S 6 0).toInt ≤ 110) : Met l yX1_size wsX1_size ({ frames := 2, cells := 0, slots := 0, locals := 43 }) (q_wP D (xTY kI kJ kL) (xW kI kL a q S N F B) sz [.ref (a 0), .int t, .int k]) (va_Qi (fun r (u : (Nat → Nat → Int32) × (Nat → Nat → Nat → Int32)) => r = (xs_size S t k).1 ∧ u = ((xs_size S t k).2, N)) (q_wB D (xTY kI kJ kL) (xW kI kL a q S N F B) sz (fun u : (Nat → Nat → Int32) × (Nat → Nat → Nat → Int32) => xW kI kL a q u.1 u.2 F B)) (va_A (xW kI kL a q S N F B) sz)) 0 0 (va_A (xW kI kL a q S N F B) sz) := by
  refine Met.ofW (cc := cX1_size) (maxL := 3) (ret := (some .int)) (by decide) rfl ?_
  intro p e s m args below meth c s₁ Bd hml hv
  obtain ⟨rfl, hsz, hP, hK, hD0, hN⟩ := hv
  have hx := Bd.exec
  have hb := Bd.bytes
  have hr := Bd.returns
  have hts := atoms_spec (ws := wsX1_size) Bd.pre
  have hown : s.vm.findClass RX1 = some m.cls := findClass_of_methodNamed Bd.named
  have hlocks := Bd.notSynchronized
  subst hsz
  have hD := hD0.self (sz := s.heap.size)
  generalize hAe : va_A (xW kI kL a q S N F B) s.heap.size = A at hD ⊢
  have hA : ∀ q : Nat, s.heap.size ≤ q → A q := fun q h => by rw [← hAe]; exact Or.inr h
  have hS : va_S A s.heap s.heap [] := va_S.rf
  have hl := lv_entry ([.ref (a 0), .int t, .int k]) (n := 3) (Nat.le_of_ble_eq_true rfl)
  rw [lg_entry_eq]
  generalize (lg_sl ([.ref (a 0), .int t, .int k]) ++ List.replicate (3 - (lg_sl ([.ref (a 0), .int t, .int k])).length) Slot.unset).toArray = ls at hl ⊢
  have hl : lv_has ls 3 [(0, .ref (a 0)), (1, .int t), (2, .int k)] := hl
  have hinX1 : ∀ w ∈ u_ws RX1 TX1 9, w ∈ wsX1_size := by decide +kernel
  refine lv_aload_n hx hb dX1_size_0 rfl (lv_at hl 0 rfl) ?_
  refine lv_iload_n hx hb dX1_size_1 rfl (lv_at hl 1 rfl) ?_
  refine vp_callSi (W.runV (As := [.int t]) (rest := []) ⟨hx, hb, hml, hown, hts⟩ (c_X1_isThing l D kI kJ kL a q S N F B t) (cwV 1 hts gX1_size_X1_isThing rfl rfl rfl (by decide +kernel) ⟨Nat.le_of_ble_eq_true rfl, Nat.le_of_ble_eq_true rfl⟩) (q_rV (w2 := []) hK hN (by rw [List.append_nil]; exact hP) (va_recv hK hP (ci := 4) (q0 := 0) rfl rfl)) rfl rfl hl.1 rfl (lv_room (Nat.le_of_ble_eq_true rfl)) dX1_size_2 ⟨Nat.le_of_ble_eq_true rfl, Nat.le_of_ble_eq_true rfl⟩) (fun r_h_1 h_1 => ?_)
  rcases h_1 with ⟨rfl, h_1⟩ | ⟨rfl, h_1⟩
  · refine lv_if_ne (tgt := 10) hx hb dX1_size_5 (by decide) (fun c_2 => ?_) (fun c_2 => absurd c_2 (by decide))
    refine lv_iload_n hx hb dX1_size_10 rfl (lv_at hl 2 rfl) ?_
    refine lv_iconst (v := 5) hx hb dX1_size_11 (by decide) ?_
    refine lv_bipush (v := 17) hx hb dX1_size_12 (by decide) ?_
    refine vp_callSi (W.runS (As := [.int k, .int 5, .int 17]) (rest := []) ⟨hx, hb, hml, hown, hts⟩ (c_X1_between l D kI kJ kL k 5 17) (va_cwS 3 hts gX1_size_X1_between rfl rfl rfl (by decide +kernel) ⟨Nat.le_of_ble_eq_true rfl, Nat.le_of_ble_eq_true rfl⟩) (q_rS0 hK hN) rfl rfl hl.1 rfl (lv_room (Nat.le_of_ble_eq_true rfl)) dX1_size_14 ⟨Nat.le_of_ble_eq_true rfl, Nat.le_of_ble_eq_true rfl⟩) (fun r_h_3 h_3 => ?_)
    rcases h_3 with ⟨rfl, h_3⟩ | ⟨rfl, h_3⟩
    · refine lv_if_ne (tgt := 23) hx hb dX1_size_17 (by decide) (fun c_4 => ?_) (fun c_4 => absurd c_4 (by decide))
      refine lv_aload_n hx hb dX1_size_23 rfl (lv_at hl 0 rfl) ?_
      refine lv_iload_n hx hb dX1_size_24 rfl (lv_at hl 1 rfl) ?_
      refine lv_iload_n hx hb dX1_size_25 rfl (lv_at hl 2 rfl) ?_
      refine vp_callSi (W.runV (As := [.int t, .int k]) (rest := []) ⟨hx, hb, hml, hown, hts⟩ (c_X1_isOf l D kI kJ kL a q S N F B t k hn) (cwV 2 hts gX1_size_X1_isOf rfl rfl rfl (by decide +kernel) ⟨Nat.le_of_ble_eq_true rfl, Nat.le_of_ble_eq_true rfl⟩) (q_rV (w2 := []) hK hN (by rw [List.append_nil]; exact hP) (va_recv hK hP (ci := 4) (q0 := 0) rfl rfl)) rfl rfl hl.1 rfl (lv_room (Nat.le_of_ble_eq_true rfl)) dX1_size_26 ⟨Nat.le_of_ble_eq_true rfl, Nat.le_of_ble_eq_true rfl⟩) (fun r_h_5 h_5 => ?_)
      rcases h_5 with ⟨rfl, h_5⟩ | ⟨rfl, h_5⟩
      · refine lv_if_ne (tgt := 38) hx hb dX1_size_29 (by decide) (fun c_6 => ?_) (fun c_6 => absurd c_6 (by decide))
        refine lv_aload_n hx hb dX1_size_38 rfl (lv_at hl 0 rfl) ?_
        refine va_get (D := D) (ci := 4) (v := .ref (a 3)) (C := RX1) (T := TX1) (N := 9) hx hb hts hinX1 hown hK hP 0 rfl rfl 2 (by decide) (hts (.fieldLink RX1 16 "LoanCases" "sizes" "[I") (by decide +kernel)) (fun _ h9 => h9) rfl dX1_size_39 ?_
        refine lv_iload_n hx hb dX1_size_42 rfl (lv_at hl 1 rfl) ?_
        refine va_iald (f := S 2) hx hb hK hP 3 0 rfl rfl (xT_in hn h_1) dX1_size_43 ?_
        exact W.iret (v := (S 2 t.toNatClampNeg)) hx hb hr (fun t9 ht hW => ⟨⟨(S 2 t.toNatClampNeg), (S, N), rfl, ⟨by simp only [xs_size, cif_t h_1, cif_t h_3, cif_t h_5], by simp only [xs_size, cif_t h_1, cif_t h_3, cif_t h_5]⟩, by rw [ht]; exact hP, va_K.moved hW.alike hK, by rw [hAe]; exact hD⟩, hS.F ht⟩) hS.2.2 dX1_size_44
      · refine lv_if_ne (tgt := 38) hx hb dX1_size_29 (by decide) (fun c_7 => absurd c_7 (by decide)) (fun c_7 => ?_)
        refine lv_aload_n hx hb dX1_size_32 rfl (lv_at hl 0 rfl) ?_
        refine lv_iconst (v := 1) hx hb dX1_size_33 (by decide) ?_
        refine qw_i (w2 := []) (va_runV (As := [.int 1]) (rest := []) ⟨hx, hb, hml, hown, hts⟩ (c_X1_found l D kI kJ kL a q S N F B s.heap.size 1 (by unfold vp_in; decide)) (cwV 1 hts gX1_size_X1_found rfl rfl rfl (by decide +kernel) ⟨Nat.le_of_ble_eq_true rfl, Nat.le_of_ble_eq_true rfl⟩) (q_wV (w2 := []) hK hN (by rw [List.append_nil]; exact hP) (by rw [List.append_nil]; exact hD) (va_recv hK hP (ci := 4) (q0 := 0) rfl rfl)) rfl rfl hl.1 rfl (lv_room (Nat.le_of_ble_eq_true rfl)) dX1_size_34 ⟨Nat.le_of_ble_eq_true rfl, Nat.le_of_ble_eq_true rfl⟩) (by rw [List.append_nil]; exact hP) (by rw [List.append_nil]; exact hD) hS hA (fun r_9 u_10 H locs h_8 hP hD hS => ?_)
        rw [List.append_nil] at hP hD
        obtain ⟨rfl, rfl⟩ := h_8
        have hP : va_P D vwCl (xW kI kL a q (xfd S 1) N F B) H := hP
        have hD : va_D A (xW kI kL a q (xfd S 1) N F B) := hD
        exact W.iret (v := (-30 - 1)) hx hb hr (fun t9 ht hW => ⟨⟨(-30 - 1), ((xfd S 1), N), rfl, ⟨by simp only [xs_size, cif_t h_1, cif_t h_3, cif_f h_5], by simp only [xs_size, cif_t h_1, cif_t h_3, cif_f h_5]⟩, by rw [ht]; exact hP, va_K.moved hW.alike hK, by rw [hAe]; exact hD⟩, hS.F ht⟩) hS.2.2 dX1_size_37
    · refine lv_if_ne (tgt := 23) hx hb dX1_size_17 (by decide) (fun c_11 => absurd c_11 (by decide)) (fun c_11 => ?_)
      refine lv_bipush (v := -2) hx hb dX1_size_20 (by decide) ?_
      exact W.iret (v := (-2)) hx hb hr (fun t9 ht hW => ⟨⟨(-2), (S, N), rfl, ⟨by simp only [xs_size, cif_t h_1, cif_f h_3], by simp only [xs_size, cif_t h_1, cif_f h_3]⟩, by rw [ht]; exact hP, va_K.moved hW.alike hK, by rw [hAe]; exact hD⟩, hS.F ht⟩) hS.2.2 dX1_size_22
  · refine lv_if_ne (tgt := 10) hx hb dX1_size_5 (by decide) (fun c_12 => absurd c_12 (by decide)) (fun c_12 => ?_)
    refine lv_iconst (v := -1) hx hb dX1_size_8 (by decide) ?_
    exact W.iret (v := (-1)) hx hb hr (fun t9 ht hW => ⟨⟨(-1), (S, N), rfl, ⟨by simp only [xs_size, cif_f h_1], by simp only [xs_size, cif_f h_1]⟩, by rw [ht]; exact hP, va_K.moved hW.alike hK, by rw [hAe]; exact hD⟩, hS.F ht⟩) hS.2.2 dX1_size_9

set_option maxHeartbeats 4000000 in
set_option maxRecDepth 100000 in
theorem c_X1_write (l : Launch) (D : va_G) (kI kJ kL : ClassId) (a q : Nat → Nat) (S : Nat → Nat → Int32) (N : Nat → Nat → Nat → Int32) (F : Nat → Option Nat) (B : Nat) (sz : Nat) (t : Int32) (k : Int32) (i : Int32) (v : Int64) (hn : (S 6 0).toInt ≤ 110) (hz10 : ∀ t, t < 110 → (S 2 t).toInt ≤ 10) : Met l yX1_write wsX1_write ({ frames := 2, cells := 0, slots := 0, locals := 43 }) (q_wP D (xTY kI kJ kL) (xW kI kL a q S N F B) sz [.ref (a 0), .int t, .int k, .int i, .long v]) (va_Qi (fun r (u : (Nat → Nat → Int32) × (Nat → Nat → Nat → Int32)) => r = (xs_write S t k i v).1 ∧ u = ((xs_write S t k i v).2, N)) (q_wB D (xTY kI kJ kL) (xW kI kL a q S N F B) sz (fun u : (Nat → Nat → Int32) × (Nat → Nat → Nat → Int32) => xW kI kL a q u.1 u.2 F B)) (va_A (xW kI kL a q S N F B) sz)) 0 0 (va_A (xW kI kL a q S N F B) sz) := by
  refine Met.ofW (cc := cX1_write) (maxL := 6) (ret := (some .int)) (by decide) rfl ?_
  intro p e s m args below meth c s₁ Bd hml hv
  obtain ⟨rfl, hsz, hP, hK, hD0, hN⟩ := hv
  have hx := Bd.exec
  have hb := Bd.bytes
  have hr := Bd.returns
  have hts := atoms_spec (ws := wsX1_write) Bd.pre
  have hown : s.vm.findClass RX1 = some m.cls := findClass_of_methodNamed Bd.named
  have hlocks := Bd.notSynchronized
  subst hsz
  have hD := hD0.self (sz := s.heap.size)
  generalize hAe : va_A (xW kI kL a q S N F B) s.heap.size = A at hD ⊢
  have hA : ∀ q : Nat, s.heap.size ≤ q → A q := fun q h => by rw [← hAe]; exact Or.inr h
  have hS : va_S A s.heap s.heap [] := va_S.rf
  have hl := lv_entry ([.ref (a 0), .int t, .int k, .int i, .long v]) (n := 6) (Nat.le_of_ble_eq_true rfl)
  rw [lg_entry_eq]
  generalize (lg_sl ([.ref (a 0), .int t, .int k, .int i, .long v]) ++ List.replicate (6 - (lg_sl ([.ref (a 0), .int t, .int k, .int i, .long v])).length) Slot.unset).toArray = ls at hl ⊢
  have hl : lv_has ls 6 [(0, .ref (a 0)), (1, .int t), (2, .int k), (3, .int i), (4, .long v)] := hl
  have hinX1 : ∀ w ∈ u_ws RX1 TX1 9, w ∈ wsX1_write := by decide +kernel
  refine lv_aload_n hx hb dX1_write_0 rfl (lv_at hl 0 rfl) ?_
  refine lv_iload_n hx hb dX1_write_1 rfl (lv_at hl 1 rfl) ?_
  refine vp_callSi (W.runV (As := [.int t]) (rest := []) ⟨hx, hb, hml, hown, hts⟩ (c_X1_isThing l D kI kJ kL a q S N F B t) (cwV 1 hts gX1_write_X1_isThing rfl rfl rfl (by decide +kernel) ⟨Nat.le_of_ble_eq_true rfl, Nat.le_of_ble_eq_true rfl⟩) (q_rV (w2 := []) hK hN (by rw [List.append_nil]; exact hP) (va_recv hK hP (ci := 4) (q0 := 0) rfl rfl)) rfl rfl hl.1 rfl (lv_room (Nat.le_of_ble_eq_true rfl)) dX1_write_2 ⟨Nat.le_of_ble_eq_true rfl, Nat.le_of_ble_eq_true rfl⟩) (fun r_h_1 h_1 => ?_)
  rcases h_1 with ⟨rfl, h_1⟩ | ⟨rfl, h_1⟩
  · refine lv_if_ne (tgt := 10) hx hb dX1_write_5 (by decide) (fun c_2 => ?_) (fun c_2 => absurd c_2 (by decide))
    refine lv_iload_n hx hb dX1_write_10 rfl (lv_at hl 2 rfl) ?_
    refine lv_iconst (v := 5) hx hb dX1_write_11 (by decide) ?_
    refine lv_bipush (v := 8) hx hb dX1_write_12 (by decide) ?_
    refine vp_callSi (W.runS (As := [.int k, .int 5, .int 8]) (rest := []) ⟨hx, hb, hml, hown, hts⟩ (c_X1_between l D kI kJ kL k 5 8) (va_cwS 3 hts gX1_write_X1_between rfl rfl rfl (by decide +kernel) ⟨Nat.le_of_ble_eq_true rfl, Nat.le_of_ble_eq_true rfl⟩) (q_rS0 hK hN) rfl rfl hl.1 rfl (lv_room (Nat.le_of_ble_eq_true rfl)) dX1_write_14 ⟨Nat.le_of_ble_eq_true rfl, Nat.le_of_ble_eq_true rfl⟩) (fun r_h_3 h_3 => ?_)
    rcases h_3 with ⟨rfl, h_3⟩ | ⟨rfl, h_3⟩
    · refine lv_if_eq (tgt := 36) hx hb dX1_write_17 (by decide) (fun c_4 => absurd c_4 (by decide)) (fun c_4 => ?_)
      refine lv_iload_n hx hb dX1_write_20 rfl (lv_at hl 2 rfl) ?_
      refine lv_bipush (v := 8) hx hb dX1_write_21 (by decide) ?_
      refine lv_icmp_ne (tgt := 39) hx hb dX1_write_23 (by decide) (fun c_5 => ?_) (fun c_5 => ?_)
      · refine lv_aload_n hx hb dX1_write_39 rfl (lv_at hl 0 rfl) ?_
        refine lv_iload_n hx hb dX1_write_40 rfl (lv_at hl 1 rfl) ?_
        refine lv_iload_n hx hb dX1_write_41 rfl (lv_at hl 2 rfl) ?_
        refine vp_callSi (W.runV (As := [.int t, .int k]) (rest := []) ⟨hx, hb, hml, hown, hts⟩ (c_X1_isOf l D kI kJ kL a q S N F B t k hn) (cwV 2 hts gX1_write_X1_isOf rfl rfl rfl (by decide +kernel) ⟨Nat.le_of_ble_eq_true rfl, Nat.le_of_ble_eq_true rfl⟩) (q_rV (w2 := []) hK hN (by rw [List.append_nil]; exact hP) (va_recv hK hP (ci := 4) (q0 := 0) rfl rfl)) rfl rfl hl.1 rfl (lv_room (Nat.le_of_ble_eq_true rfl)) dX1_write_42 ⟨Nat.le_of_ble_eq_true rfl, Nat.le_of_ble_eq_true rfl⟩) (fun r_h_6 h_6 => ?_)
        rcases h_6 with ⟨rfl, h_6⟩ | ⟨rfl, h_6⟩
        · refine lv_if_ne (tgt := 54) hx hb dX1_write_45 (by decide) (fun c_7 => ?_) (fun c_7 => absurd c_7 (by decide))
          refine lv_aload_n hx hb dX1_write_54 rfl (lv_at hl 0 rfl) ?_
          refine lv_iload_n hx hb dX1_write_55 rfl (lv_at hl 1 rfl) ?_
          refine lv_iload_n hx hb dX1_write_56 rfl (lv_at hl 3 rfl) ?_
          refine vp_callSi (W.runV (As := [.int t, .int i]) (rest := []) ⟨hx, hb, hml, hown, hts⟩ (c_X1_hasPlace l D kI kJ kL a q S N F B t i (xT_in hn h_1)) (cwV 2 hts gX1_write_X1_hasPlace rfl rfl rfl (by decide +kernel) ⟨Nat.le_of_ble_eq_true rfl, Nat.le_of_ble_eq_true rfl⟩) (q_rV (w2 := []) hK hN (by rw [List.append_nil]; exact hP) (va_recv hK hP (ci := 4) (q0 := 0) rfl rfl)) rfl rfl hl.1 rfl (lv_room (Nat.le_of_ble_eq_true rfl)) dX1_write_57 ⟨Nat.le_of_ble_eq_true rfl, Nat.le_of_ble_eq_true rfl⟩) (fun r_h_8 h_8 => ?_)
          rcases h_8 with ⟨rfl, h_8⟩ | ⟨rfl, h_8⟩
          · refine lv_if_ne (tgt := 69) hx hb dX1_write_60 (by decide) (fun c_9 => ?_) (fun c_9 => absurd c_9 (by decide))
            refine lv_aload_n hx hb dX1_write_69 rfl (lv_at hl 0 rfl) ?_
            refine va_get (D := D) (ci := 4) (v := .ref (a 5)) (C := RX1) (T := TX1) (N := 9) hx hb hts hinX1 hown hK hP 0 rfl rfl 4 (by decide) (hts (.fieldLink RX1 22 "LoanCases" "places" "[I") (by decide +kernel)) (fun _ h9 => h9) rfl dX1_write_70 ?_
            refine lv_iload_n hx hb dX1_write_73 rfl (lv_at hl 1 rfl) ?_
            refine lv_bipush (v := 10) hx hb dX1_write_74 (by decide) ?_
            refine lv_imul hx hb dX1_write_76 ?_
            refine lv_iload_n hx hb dX1_write_77 rfl (lv_at hl 3 rfl) ?_
            refine lv_iadd hx hb dX1_write_78 ?_
            refine lv_iload_n hx hb dX1_write_79 rfl (lv_at hl 2 rfl) ?_
            refine lv_lload hx hb dX1_write_80 (lv_at hl 4 rfl) ?_
            refine vp_callSi (W.runS (As := [.int k, .long v]) (rest := [.int ((t * 10) + i), .ref (a 5)]) ⟨hx, hb, hml, hown, hts⟩ (c_X1_lowestBits l D kI kJ kL k v) (va_cwS 2 hts gX1_write_X1_lowestBits rfl rfl rfl (by decide +kernel) ⟨Nat.le_of_ble_eq_true rfl, Nat.le_of_ble_eq_true rfl⟩) (q_rS0 hK hN) rfl rfl hl.1 rfl (lv_room (Nat.le_of_ble_eq_true rfl)) dX1_write_82 ⟨Nat.le_of_ble_eq_true rfl, Nat.le_of_ble_eq_true rfl⟩) (fun r_11 h_10 => ?_)
            subst h_10
            refine va_iast hx hb hK hP hD hS 5 0 rfl rfl (pl_in (xT_in hn h_1) h_8.1 h_8.2 (hz10 _ (Nat.lt_of_not_le fun h7 => (xT_in hn h_1) (Or.inr h7)))) dX1_write_85 (fun H locs hP hD hS => ?_)
            have hP : va_P D vwCl (xW kI kL a q (sU S 4 (((t * 10) + i).toNatClampNeg) (xlo k v)) N F B) H := hP
            have hD : va_D A (xW kI kL a q (sU S 4 (((t * 10) + i).toNatClampNeg) (xlo k v)) N F B) := hD
            refine lv_iconst (v := 1) hx hb dX1_write_86 (by decide) ?_
            exact W.iret (v := 1) hx hb hr (fun t9 ht hW => ⟨⟨1, ((sU S 4 (((t * 10) + i).toNatClampNeg) (xlo k v)), N), rfl, ⟨by simp only [xs_write, xs_write2, cif_t h_1, cif_t h_3, cif_f c_5, cif_t h_6, cif_t h_8], by simp only [xs_write, xs_write2, cif_t h_1, cif_t h_3, cif_f c_5, cif_t h_6, cif_t h_8]⟩, by rw [ht]; exact hP, va_K.moved hW.alike hK, by rw [hAe]; exact hD⟩, hS.F ht⟩) hS.2.2 dX1_write_87
          · refine lv_if_ne (tgt := 69) hx hb dX1_write_60 (by decide) (fun c_12 => absurd c_12 (by decide)) (fun c_12 => ?_)
            refine lv_aload_n hx hb dX1_write_63 rfl (lv_at hl 0 rfl) ?_
            refine lv_iconst (v := 3) hx hb dX1_write_64 (by decide) ?_
            refine qw_i (w2 := []) (va_runV (As := [.int 3]) (rest := []) ⟨hx, hb, hml, hown, hts⟩ (c_X1_found l D kI kJ kL a q S N F B s.heap.size 3 (by unfold vp_in; decide)) (cwV 1 hts gX1_write_X1_found rfl rfl rfl (by decide +kernel) ⟨Nat.le_of_ble_eq_true rfl, Nat.le_of_ble_eq_true rfl⟩) (q_wV (w2 := []) hK hN (by rw [List.append_nil]; exact hP) (by rw [List.append_nil]; exact hD) (va_recv hK hP (ci := 4) (q0 := 0) rfl rfl)) rfl rfl hl.1 rfl (lv_room (Nat.le_of_ble_eq_true rfl)) dX1_write_65 ⟨Nat.le_of_ble_eq_true rfl, Nat.le_of_ble_eq_true rfl⟩) (by rw [List.append_nil]; exact hP) (by rw [List.append_nil]; exact hD) hS hA (fun r_14 u_15 H locs h_13 hP hD hS => ?_)
            rw [List.append_nil] at hP hD
            obtain ⟨rfl, rfl⟩ := h_13
            have hP : va_P D vwCl (xW kI kL a q (xfd S 3) N F B) H := hP
            have hD : va_D A (xW kI kL a q (xfd S 3) N F B) := hD
            exact W.iret (v := (-30 - 3)) hx hb hr (fun t9 ht hW => ⟨⟨(-30 - 3), ((xfd S 3), N), rfl, ⟨by simp only [xs_write, xs_write2, cif_t h_1, cif_t h_3, cif_f c_5, cif_t h_6, cif_f h_8], by simp only [xs_write, xs_write2, cif_t h_1, cif_t h_3, cif_f c_5, cif_t h_6, cif_f h_8]⟩, by rw [ht]; exact hP, va_K.moved hW.alike hK, by rw [hAe]; exact hD⟩, hS.F ht⟩) hS.2.2 dX1_write_68
        · refine lv_if_ne (tgt := 54) hx hb dX1_write_45 (by decide) (fun c_16 => absurd c_16 (by decide)) (fun c_16 => ?_)
          refine lv_aload_n hx hb dX1_write_48 rfl (lv_at hl 0 rfl) ?_
          refine lv_iconst (v := 1) hx hb dX1_write_49 (by decide) ?_
          refine qw_i (w2 := []) (va_runV (As := [.int 1]) (rest := []) ⟨hx, hb, hml, hown, hts⟩ (c_X1_found l D kI kJ kL a q S N F B s.heap.size 1 (by unfold vp_in; decide)) (cwV 1 hts gX1_write_X1_found rfl rfl rfl (by decide +kernel) ⟨Nat.le_of_ble_eq_true rfl, Nat.le_of_ble_eq_true rfl⟩) (q_wV (w2 := []) hK hN (by rw [List.append_nil]; exact hP) (by rw [List.append_nil]; exact hD) (va_recv hK hP (ci := 4) (q0 := 0) rfl rfl)) rfl rfl hl.1 rfl (lv_room (Nat.le_of_ble_eq_true rfl)) dX1_write_50 ⟨Nat.le_of_ble_eq_true rfl, Nat.le_of_ble_eq_true rfl⟩) (by rw [List.append_nil]; exact hP) (by rw [List.append_nil]; exact hD) hS hA (fun r_18 u_19 H locs h_17 hP hD hS => ?_)
          rw [List.append_nil] at hP hD
          obtain ⟨rfl, rfl⟩ := h_17
          have hP : va_P D vwCl (xW kI kL a q (xfd S 1) N F B) H := hP
          have hD : va_D A (xW kI kL a q (xfd S 1) N F B) := hD
          exact W.iret (v := (-30 - 1)) hx hb hr (fun t9 ht hW => ⟨⟨(-30 - 1), ((xfd S 1), N), rfl, ⟨by simp only [xs_write, xs_write2, cif_t h_1, cif_t h_3, cif_f c_5, cif_f h_6], by simp only [xs_write, xs_write2, cif_t h_1, cif_t h_3, cif_f c_5, cif_f h_6]⟩, by rw [ht]; exact hP, va_K.moved hW.alike hK, by rw [hAe]; exact hD⟩, hS.F ht⟩) hS.2.2 dX1_write_53
      · refine lv_lload hx hb dX1_write_26 (lv_at hl 4 rfl) ?_
        refine lv_lload hx hb dX1_write_28 (lv_at hl 4 rfl) ?_
        refine lv_l2i hx hb dX1_write_30 rfl ?_
        refine lv_i2l hx hb dX1_write_31 rfl ?_
        refine W.lcmp hx hb dX1_write_32 ?_
        refine lv_if_eq (tgt := 39) hx hb dX1_write_33 (by decide) (fun c_20 => ?_) (fun c_20 => ?_)
        · refine lv_aload_n hx hb dX1_write_39 rfl (lv_at hl 0 rfl) ?_
          refine lv_iload_n hx hb dX1_write_40 rfl (lv_at hl 1 rfl) ?_
          refine lv_iload_n hx hb dX1_write_41 rfl (lv_at hl 2 rfl) ?_
          refine vp_callSi (W.runV (As := [.int t, .int k]) (rest := []) ⟨hx, hb, hml, hown, hts⟩ (c_X1_isOf l D kI kJ kL a q S N F B t k hn) (cwV 2 hts gX1_write_X1_isOf rfl rfl rfl (by decide +kernel) ⟨Nat.le_of_ble_eq_true rfl, Nat.le_of_ble_eq_true rfl⟩) (q_rV (w2 := []) hK hN (by rw [List.append_nil]; exact hP) (va_recv hK hP (ci := 4) (q0 := 0) rfl rfl)) rfl rfl hl.1 rfl (lv_room (Nat.le_of_ble_eq_true rfl)) dX1_write_42 ⟨Nat.le_of_ble_eq_true rfl, Nat.le_of_ble_eq_true rfl⟩) (fun r_h_21 h_21 => ?_)
          rcases h_21 with ⟨rfl, h_21⟩ | ⟨rfl, h_21⟩
          · refine lv_if_ne (tgt := 54) hx hb dX1_write_45 (by decide) (fun c_22 => ?_) (fun c_22 => absurd c_22 (by decide))
            refine lv_aload_n hx hb dX1_write_54 rfl (lv_at hl 0 rfl) ?_
            refine lv_iload_n hx hb dX1_write_55 rfl (lv_at hl 1 rfl) ?_
            refine lv_iload_n hx hb dX1_write_56 rfl (lv_at hl 3 rfl) ?_
            refine vp_callSi (W.runV (As := [.int t, .int i]) (rest := []) ⟨hx, hb, hml, hown, hts⟩ (c_X1_hasPlace l D kI kJ kL a q S N F B t i (xT_in hn h_1)) (cwV 2 hts gX1_write_X1_hasPlace rfl rfl rfl (by decide +kernel) ⟨Nat.le_of_ble_eq_true rfl, Nat.le_of_ble_eq_true rfl⟩) (q_rV (w2 := []) hK hN (by rw [List.append_nil]; exact hP) (va_recv hK hP (ci := 4) (q0 := 0) rfl rfl)) rfl rfl hl.1 rfl (lv_room (Nat.le_of_ble_eq_true rfl)) dX1_write_57 ⟨Nat.le_of_ble_eq_true rfl, Nat.le_of_ble_eq_true rfl⟩) (fun r_h_23 h_23 => ?_)
            rcases h_23 with ⟨rfl, h_23⟩ | ⟨rfl, h_23⟩
            · refine lv_if_ne (tgt := 69) hx hb dX1_write_60 (by decide) (fun c_24 => ?_) (fun c_24 => absurd c_24 (by decide))
              refine lv_aload_n hx hb dX1_write_69 rfl (lv_at hl 0 rfl) ?_
              refine va_get (D := D) (ci := 4) (v := .ref (a 5)) (C := RX1) (T := TX1) (N := 9) hx hb hts hinX1 hown hK hP 0 rfl rfl 4 (by decide) (hts (.fieldLink RX1 22 "LoanCases" "places" "[I") (by decide +kernel)) (fun _ h9 => h9) rfl dX1_write_70 ?_
              refine lv_iload_n hx hb dX1_write_73 rfl (lv_at hl 1 rfl) ?_
              refine lv_bipush (v := 10) hx hb dX1_write_74 (by decide) ?_
              refine lv_imul hx hb dX1_write_76 ?_
              refine lv_iload_n hx hb dX1_write_77 rfl (lv_at hl 3 rfl) ?_
              refine lv_iadd hx hb dX1_write_78 ?_
              refine lv_iload_n hx hb dX1_write_79 rfl (lv_at hl 2 rfl) ?_
              refine lv_lload hx hb dX1_write_80 (lv_at hl 4 rfl) ?_
              refine vp_callSi (W.runS (As := [.int k, .long v]) (rest := [.int ((t * 10) + i), .ref (a 5)]) ⟨hx, hb, hml, hown, hts⟩ (c_X1_lowestBits l D kI kJ kL k v) (va_cwS 2 hts gX1_write_X1_lowestBits rfl rfl rfl (by decide +kernel) ⟨Nat.le_of_ble_eq_true rfl, Nat.le_of_ble_eq_true rfl⟩) (q_rS0 hK hN) rfl rfl hl.1 rfl (lv_room (Nat.le_of_ble_eq_true rfl)) dX1_write_82 ⟨Nat.le_of_ble_eq_true rfl, Nat.le_of_ble_eq_true rfl⟩) (fun r_26 h_25 => ?_)
              subst h_25
              refine va_iast hx hb hK hP hD hS 5 0 rfl rfl (pl_in (xT_in hn h_1) h_23.1 h_23.2 (hz10 _ (Nat.lt_of_not_le fun h7 => (xT_in hn h_1) (Or.inr h7)))) dX1_write_85 (fun H locs hP hD hS => ?_)
              have hP : va_P D vwCl (xW kI kL a q (sU S 4 (((t * 10) + i).toNatClampNeg) (xlo k v)) N F B) H := hP
              have hD : va_D A (xW kI kL a q (sU S 4 (((t * 10) + i).toNatClampNeg) (xlo k v)) N F B) := hD
              refine lv_iconst (v := 1) hx hb dX1_write_86 (by decide) ?_
              exact W.iret (v := 1) hx hb hr (fun t9 ht hW => ⟨⟨1, ((sU S 4 (((t * 10) + i).toNatClampNeg) (xlo k v)), N), rfl, ⟨by simp only [xs_write, xs_write2, cif_t h_1, cif_t h_3, cif_t c_5, cif_t c_20, cif_t h_21, cif_t h_23], by simp only [xs_write, xs_write2, cif_t h_1, cif_t h_3, cif_t c_5, cif_t c_20, cif_t h_21, cif_t h_23]⟩, by rw [ht]; exact hP, va_K.moved hW.alike hK, by rw [hAe]; exact hD⟩, hS.F ht⟩) hS.2.2 dX1_write_87
            · refine lv_if_ne (tgt := 69) hx hb dX1_write_60 (by decide) (fun c_27 => absurd c_27 (by decide)) (fun c_27 => ?_)
              refine lv_aload_n hx hb dX1_write_63 rfl (lv_at hl 0 rfl) ?_
              refine lv_iconst (v := 3) hx hb dX1_write_64 (by decide) ?_
              refine qw_i (w2 := []) (va_runV (As := [.int 3]) (rest := []) ⟨hx, hb, hml, hown, hts⟩ (c_X1_found l D kI kJ kL a q S N F B s.heap.size 3 (by unfold vp_in; decide)) (cwV 1 hts gX1_write_X1_found rfl rfl rfl (by decide +kernel) ⟨Nat.le_of_ble_eq_true rfl, Nat.le_of_ble_eq_true rfl⟩) (q_wV (w2 := []) hK hN (by rw [List.append_nil]; exact hP) (by rw [List.append_nil]; exact hD) (va_recv hK hP (ci := 4) (q0 := 0) rfl rfl)) rfl rfl hl.1 rfl (lv_room (Nat.le_of_ble_eq_true rfl)) dX1_write_65 ⟨Nat.le_of_ble_eq_true rfl, Nat.le_of_ble_eq_true rfl⟩) (by rw [List.append_nil]; exact hP) (by rw [List.append_nil]; exact hD) hS hA (fun r_29 u_30 H locs h_28 hP hD hS => ?_)
              rw [List.append_nil] at hP hD
              obtain ⟨rfl, rfl⟩ := h_28
              have hP : va_P D vwCl (xW kI kL a q (xfd S 3) N F B) H := hP
              have hD : va_D A (xW kI kL a q (xfd S 3) N F B) := hD
              exact W.iret (v := (-30 - 3)) hx hb hr (fun t9 ht hW => ⟨⟨(-30 - 3), ((xfd S 3), N), rfl, ⟨by simp only [xs_write, xs_write2, cif_t h_1, cif_t h_3, cif_t c_5, cif_t c_20, cif_t h_21, cif_f h_23], by simp only [xs_write, xs_write2, cif_t h_1, cif_t h_3, cif_t c_5, cif_t c_20, cif_t h_21, cif_f h_23]⟩, by rw [ht]; exact hP, va_K.moved hW.alike hK, by rw [hAe]; exact hD⟩, hS.F ht⟩) hS.2.2 dX1_write_68
          · refine lv_if_ne (tgt := 54) hx hb dX1_write_45 (by decide) (fun c_31 => absurd c_31 (by decide)) (fun c_31 => ?_)
            refine lv_aload_n hx hb dX1_write_48 rfl (lv_at hl 0 rfl) ?_
            refine lv_iconst (v := 1) hx hb dX1_write_49 (by decide) ?_
            refine qw_i (w2 := []) (va_runV (As := [.int 1]) (rest := []) ⟨hx, hb, hml, hown, hts⟩ (c_X1_found l D kI kJ kL a q S N F B s.heap.size 1 (by unfold vp_in; decide)) (cwV 1 hts gX1_write_X1_found rfl rfl rfl (by decide +kernel) ⟨Nat.le_of_ble_eq_true rfl, Nat.le_of_ble_eq_true rfl⟩) (q_wV (w2 := []) hK hN (by rw [List.append_nil]; exact hP) (by rw [List.append_nil]; exact hD) (va_recv hK hP (ci := 4) (q0 := 0) rfl rfl)) rfl rfl hl.1 rfl (lv_room (Nat.le_of_ble_eq_true rfl)) dX1_write_50 ⟨Nat.le_of_ble_eq_true rfl, Nat.le_of_ble_eq_true rfl⟩) (by rw [List.append_nil]; exact hP) (by rw [List.append_nil]; exact hD) hS hA (fun r_33 u_34 H locs h_32 hP hD hS => ?_)
            rw [List.append_nil] at hP hD
            obtain ⟨rfl, rfl⟩ := h_32
            have hP : va_P D vwCl (xW kI kL a q (xfd S 1) N F B) H := hP
            have hD : va_D A (xW kI kL a q (xfd S 1) N F B) := hD
            exact W.iret (v := (-30 - 1)) hx hb hr (fun t9 ht hW => ⟨⟨(-30 - 1), ((xfd S 1), N), rfl, ⟨by simp only [xs_write, xs_write2, cif_t h_1, cif_t h_3, cif_t c_5, cif_t c_20, cif_f h_21], by simp only [xs_write, xs_write2, cif_t h_1, cif_t h_3, cif_t c_5, cif_t c_20, cif_f h_21]⟩, by rw [ht]; exact hP, va_K.moved hW.alike hK, by rw [hAe]; exact hD⟩, hS.F ht⟩) hS.2.2 dX1_write_53
        · refine lv_bipush (v := -2) hx hb dX1_write_36 (by decide) ?_
          exact W.iret (v := (-2)) hx hb hr (fun t9 ht hW => ⟨⟨(-2), (S, N), rfl, ⟨by simp only [xs_write, xs_write2, cif_t h_1, cif_t h_3, cif_t c_5, cif_f c_20], by simp only [xs_write, xs_write2, cif_t h_1, cif_t h_3, cif_t c_5, cif_f c_20]⟩, by rw [ht]; exact hP, va_K.moved hW.alike hK, by rw [hAe]; exact hD⟩, hS.F ht⟩) hS.2.2 dX1_write_38
    · refine lv_if_eq (tgt := 36) hx hb dX1_write_17 (by decide) (fun c_35 => ?_) (fun c_35 => absurd c_35 (by decide))
      refine lv_bipush (v := -2) hx hb dX1_write_36 (by decide) ?_
      exact W.iret (v := (-2)) hx hb hr (fun t9 ht hW => ⟨⟨(-2), (S, N), rfl, ⟨by simp only [xs_write, xs_write2, cif_t h_1, cif_f h_3], by simp only [xs_write, xs_write2, cif_t h_1, cif_f h_3]⟩, by rw [ht]; exact hP, va_K.moved hW.alike hK, by rw [hAe]; exact hD⟩, hS.F ht⟩) hS.2.2 dX1_write_38
  · refine lv_if_ne (tgt := 10) hx hb dX1_write_5 (by decide) (fun c_36 => absurd c_36 (by decide)) (fun c_36 => ?_)
    refine lv_iconst (v := -1) hx hb dX1_write_8 (by decide) ?_
    exact W.iret (v := (-1)) hx hb hr (fun t9 ht hW => ⟨⟨(-1), (S, N), rfl, ⟨by simp only [xs_write, xs_write2, cif_f h_1], by simp only [xs_write, xs_write2, cif_f h_1]⟩, by rw [ht]; exact hP, va_K.moved hW.alike hK, by rw [hAe]; exact hD⟩, hS.F ht⟩) hS.2.2 dX1_write_9

set_option maxHeartbeats 4000000 in
set_option maxRecDepth 100000 in
theorem c_X1_hang (l : Launch) (D : va_G) (kI kJ kL : ClassId) (a q : Nat → Nat) (S : Nat → Nat → Int32) (N : Nat → Nat → Nat → Int32) (F : Nat → Option Nat) (B : Nat) (sz : Nat) (t : Int32) (k : Int32) (i : Int32) (o : Int32) (hn : (S 6 0).toInt ≤ 110) (hz10 : ∀ t, t < 110 → (S 2 t).toInt ≤ 10) : Met l yX1_hang wsX1_hang ({ frames := 3, cells := 0, slots := 0, locals := 65 }) (q_wP D (xTY kI kJ kL) (xW kI kL a q S N F B) sz [.ref (a 0), .int t, .int k, .int i, .int o]) (va_Qi (fun r (u : (Nat → Nat → Int32) × (Nat → Nat → Nat → Int32)) => r = (xs_hang S t k i o).1 ∧ u = ((xs_hang S t k i o).2, N)) (q_wB D (xTY kI kJ kL) (xW kI kL a q S N F B) sz (fun u : (Nat → Nat → Int32) × (Nat → Nat → Nat → Int32) => xW kI kL a q u.1 u.2 F B)) (va_A (xW kI kL a q S N F B) sz)) 0 0 (va_A (xW kI kL a q S N F B) sz) := by
  refine Met.ofW (cc := cX1_hang) (maxL := 5) (ret := (some .int)) (by decide) rfl ?_
  intro p e s m args below meth c s₁ Bd hml hv
  obtain ⟨rfl, hsz, hP, hK, hD0, hN⟩ := hv
  have hx := Bd.exec
  have hb := Bd.bytes
  have hr := Bd.returns
  have hts := atoms_spec (ws := wsX1_hang) Bd.pre
  have hown : s.vm.findClass RX1 = some m.cls := findClass_of_methodNamed Bd.named
  have hlocks := Bd.notSynchronized
  subst hsz
  have hD := hD0.self (sz := s.heap.size)
  generalize hAe : va_A (xW kI kL a q S N F B) s.heap.size = A at hD ⊢
  have hA : ∀ q : Nat, s.heap.size ≤ q → A q := fun q h => by rw [← hAe]; exact Or.inr h
  have hS : va_S A s.heap s.heap [] := va_S.rf
  have hl := lv_entry ([.ref (a 0), .int t, .int k, .int i, .int o]) (n := 5) (Nat.le_of_ble_eq_true rfl)
  rw [lg_entry_eq]
  generalize (lg_sl ([.ref (a 0), .int t, .int k, .int i, .int o]) ++ List.replicate (5 - (lg_sl ([.ref (a 0), .int t, .int k, .int i, .int o])).length) Slot.unset).toArray = ls at hl ⊢
  have hl : lv_has ls 5 [(0, .ref (a 0)), (1, .int t), (2, .int k), (3, .int i), (4, .int o)] := hl
  have hinX1 : ∀ w ∈ u_ws RX1 TX1 9, w ∈ wsX1_hang := by decide +kernel
  refine lv_aload_n hx hb dX1_hang_0 rfl (lv_at hl 0 rfl) ?_
  refine lv_iload_n hx hb dX1_hang_1 rfl (lv_at hl 1 rfl) ?_
  refine vp_callSi (W.runV (As := [.int t]) (rest := []) ⟨hx, hb, hml, hown, hts⟩ (c_X1_isThing l D kI kJ kL a q S N F B t) (cwV 1 hts gX1_hang_X1_isThing rfl rfl rfl (by decide +kernel) ⟨Nat.le_of_ble_eq_true rfl, Nat.le_of_ble_eq_true rfl⟩) (q_rV (w2 := []) hK hN (by rw [List.append_nil]; exact hP) (va_recv hK hP (ci := 4) (q0 := 0) rfl rfl)) rfl rfl hl.1 rfl (lv_room (Nat.le_of_ble_eq_true rfl)) dX1_hang_2 ⟨Nat.le_of_ble_eq_true rfl, Nat.le_of_ble_eq_true rfl⟩) (fun r_h_1 h_1 => ?_)
  rcases h_1 with ⟨rfl, h_1⟩ | ⟨rfl, h_1⟩
  · refine lv_if_eq (tgt := 17) hx hb dX1_hang_5 (by decide) (fun c_2 => absurd c_2 (by decide)) (fun c_2 => ?_)
    refine lv_aload_n hx hb dX1_hang_8 rfl (lv_at hl 0 rfl) ?_
    refine lv_iload hx hb dX1_hang_9 (lv_at hl 4 rfl) ?_
    refine vp_callSi (W.runV (As := [.int o]) (rest := []) ⟨hx, hb, hml, hown, hts⟩ (c_X1_isThingOrNone l D kI kJ kL a q S N F B o) (cwV 1 hts gX1_hang_X1_isThingOrNone rfl rfl rfl (by decide +kernel) ⟨Nat.le_of_ble_eq_true rfl, Nat.le_of_ble_eq_true rfl⟩) (q_rV (w2 := []) hK hN (by rw [List.append_nil]; exact hP) (va_recv hK hP (ci := 4) (q0 := 0) rfl rfl)) rfl rfl hl.1 rfl (lv_room (Nat.le_of_ble_eq_true rfl)) dX1_hang_11 ⟨Nat.le_of_ble_eq_true rfl, Nat.le_of_ble_eq_true rfl⟩) (fun r_h_3 h_3 => ?_)
    rcases h_3 with ⟨rfl, h_3⟩ | ⟨rfl, h_3⟩
    · refine lv_if_ne (tgt := 19) hx hb dX1_hang_14 (by decide) (fun c_4 => ?_) (fun c_4 => absurd c_4 (by decide))
      refine lv_iload_n hx hb dX1_hang_19 rfl (lv_at hl 2 rfl) ?_
      refine lv_bipush (v := 9) hx hb dX1_hang_20 (by decide) ?_
      refine lv_bipush (v := 17) hx hb dX1_hang_22 (by decide) ?_
      refine vp_callSi (W.runS (As := [.int k, .int 9, .int 17]) (rest := []) ⟨hx, hb, hml, hown, hts⟩ (c_X1_between l D kI kJ kL k 9 17) (va_cwS 3 hts gX1_hang_X1_between rfl rfl rfl (by decide +kernel) ⟨Nat.le_of_ble_eq_true rfl, Nat.le_of_ble_eq_true rfl⟩) (q_rS0 hK hN) rfl rfl hl.1 rfl (lv_room (Nat.le_of_ble_eq_true rfl)) dX1_hang_24 ⟨Nat.le_of_ble_eq_true rfl, Nat.le_of_ble_eq_true rfl⟩) (fun r_h_5 h_5 => ?_)
      rcases h_5 with ⟨rfl, h_5⟩ | ⟨rfl, h_5⟩
      · refine lv_if_ne (tgt := 33) hx hb dX1_hang_27 (by decide) (fun c_6 => ?_) (fun c_6 => absurd c_6 (by decide))
        refine lv_aload_n hx hb dX1_hang_33 rfl (lv_at hl 0 rfl) ?_
        refine lv_iload_n hx hb dX1_hang_34 rfl (lv_at hl 1 rfl) ?_
        refine lv_iload_n hx hb dX1_hang_35 rfl (lv_at hl 2 rfl) ?_
        refine vp_callSi (W.runV (As := [.int t, .int k]) (rest := []) ⟨hx, hb, hml, hown, hts⟩ (c_X1_isOf l D kI kJ kL a q S N F B t k hn) (cwV 2 hts gX1_hang_X1_isOf rfl rfl rfl (by decide +kernel) ⟨Nat.le_of_ble_eq_true rfl, Nat.le_of_ble_eq_true rfl⟩) (q_rV (w2 := []) hK hN (by rw [List.append_nil]; exact hP) (va_recv hK hP (ci := 4) (q0 := 0) rfl rfl)) rfl rfl hl.1 rfl (lv_room (Nat.le_of_ble_eq_true rfl)) dX1_hang_36 ⟨Nat.le_of_ble_eq_true rfl, Nat.le_of_ble_eq_true rfl⟩) (fun r_h_7 h_7 => ?_)
        rcases h_7 with ⟨rfl, h_7⟩ | ⟨rfl, h_7⟩
        · refine lv_if_eq (tgt := 55) hx hb dX1_hang_39 (by decide) (fun c_8 => absurd c_8 (by decide)) (fun c_8 => ?_)
          refine lv_aload_n hx hb dX1_hang_42 rfl (lv_at hl 0 rfl) ?_
          refine lv_iload hx hb dX1_hang_43 (lv_at hl 4 rfl) ?_
          refine lv_iload_n hx hb dX1_hang_45 rfl (lv_at hl 2 rfl) ?_
          refine vp_callSi (W.runS (As := [.int k]) (rest := [.int o, .ref (a 0)]) ⟨hx, hb, hml, hown, hts⟩ (c_X1_partOf l D kI kJ kL k) (va_cwS 1 hts gX1_hang_X1_partOf rfl rfl rfl (by decide +kernel) ⟨Nat.le_of_ble_eq_true rfl, Nat.le_of_ble_eq_true rfl⟩) (q_rS0 hK hN) rfl rfl hl.1 rfl (lv_room (Nat.le_of_ble_eq_true rfl)) dX1_hang_46 ⟨Nat.le_of_ble_eq_true rfl, Nat.le_of_ble_eq_true rfl⟩) (fun r_10 h_9 => ?_)
          subst h_9
          refine vp_callSi (W.runV (As := [.int o, .int (xpo k)]) (rest := []) ⟨hx, hb, hml, hown, hts⟩ (c_X1_passesFor l D kI kJ kL a q S N F B o (xpo k) hn) (cwV 2 hts gX1_hang_X1_passesFor rfl rfl rfl (by decide +kernel) ⟨Nat.le_of_ble_eq_true rfl, Nat.le_of_ble_eq_true rfl⟩) (q_rV (w2 := []) hK hN (by rw [List.append_nil]; exact hP) (va_recv hK hP (ci := 4) (q0 := 0) rfl rfl)) rfl rfl hl.1 rfl (lv_room (Nat.le_of_ble_eq_true rfl)) dX1_hang_49 ⟨Nat.le_of_ble_eq_true rfl, Nat.le_of_ble_eq_true rfl⟩) (fun r_h_11 h_11 => ?_)
          rcases h_11 with ⟨rfl, h_11⟩ | ⟨rfl, h_11⟩
          · refine lv_if_ne (tgt := 61) hx hb dX1_hang_52 (by decide) (fun c_12 => ?_) (fun c_12 => absurd c_12 (by decide))
            refine lv_aload_n hx hb dX1_hang_61 rfl (lv_at hl 0 rfl) ?_
            refine lv_iload_n hx hb dX1_hang_62 rfl (lv_at hl 1 rfl) ?_
            refine lv_iload_n hx hb dX1_hang_63 rfl (lv_at hl 3 rfl) ?_
            refine vp_callSi (W.runV (As := [.int t, .int i]) (rest := []) ⟨hx, hb, hml, hown, hts⟩ (c_X1_hasPlace l D kI kJ kL a q S N F B t i (xT_in hn h_1)) (cwV 2 hts gX1_hang_X1_hasPlace rfl rfl rfl (by decide +kernel) ⟨Nat.le_of_ble_eq_true rfl, Nat.le_of_ble_eq_true rfl⟩) (q_rV (w2 := []) hK hN (by rw [List.append_nil]; exact hP) (va_recv hK hP (ci := 4) (q0 := 0) rfl rfl)) rfl rfl hl.1 rfl (lv_room (Nat.le_of_ble_eq_true rfl)) dX1_hang_64 ⟨Nat.le_of_ble_eq_true rfl, Nat.le_of_ble_eq_true rfl⟩) (fun r_h_13 h_13 => ?_)
            rcases h_13 with ⟨rfl, h_13⟩ | ⟨rfl, h_13⟩
            · refine lv_if_ne (tgt := 76) hx hb dX1_hang_67 (by decide) (fun c_14 => ?_) (fun c_14 => absurd c_14 (by decide))
              refine lv_aload_n hx hb dX1_hang_76 rfl (lv_at hl 0 rfl) ?_
              refine lv_iload hx hb dX1_hang_77 (lv_at hl 4 rfl) ?_
              refine lv_aload_n hx hb dX1_hang_79 rfl (lv_at hl 0 rfl) ?_
              refine va_get (D := D) (ci := 4) (v := .ref (a 1)) (C := RX1) (T := TX1) (N := 9) hx hb hts hinX1 hown hK hP 0 rfl rfl 0 (by decide) (hts (.fieldLink RX1 9 "LoanCases" "forms" "[I") (by decide +kernel)) (fun _ h9 => h9) rfl dX1_hang_80 ?_
              refine lv_iload_n hx hb dX1_hang_83 rfl (lv_at hl 1 rfl) ?_
              refine va_iald (f := S 0) hx hb hK hP 1 0 rfl rfl (xT_in hn h_1) dX1_hang_84 ?_
              refine vp_callSi (W.runS (As := [.int (S 0 t.toNatClampNeg)]) (rest := [.int o, .ref (a 0)]) ⟨hx, hb, hml, hown, hts⟩ (c_X1_partOf l D kI kJ kL (S 0 t.toNatClampNeg)) (va_cwS 1 hts gX1_hang_X1_partOf rfl rfl rfl (by decide +kernel) ⟨Nat.le_of_ble_eq_true rfl, Nat.le_of_ble_eq_true rfl⟩) (q_rS0 hK hN) rfl rfl hl.1 rfl (lv_room (Nat.le_of_ble_eq_true rfl)) dX1_hang_85 ⟨Nat.le_of_ble_eq_true rfl, Nat.le_of_ble_eq_true rfl⟩) (fun r_16 h_15 => ?_)
              subst h_15
              refine vp_callSi (W.runV (As := [.int o, .int (xpo (S 0 t.toNatClampNeg))]) (rest := []) ⟨hx, hb, hml, hown, hts⟩ (c_X1_passesFor l D kI kJ kL a q S N F B o (xpo (S 0 t.toNatClampNeg)) hn) (cwV 2 hts gX1_hang_X1_passesFor rfl rfl rfl (by decide +kernel) ⟨Nat.le_of_ble_eq_true rfl, Nat.le_of_ble_eq_true rfl⟩) (q_rV (w2 := []) hK hN (by rw [List.append_nil]; exact hP) (va_recv hK hP (ci := 4) (q0 := 0) rfl rfl)) rfl rfl hl.1 rfl (lv_room (Nat.le_of_ble_eq_true rfl)) dX1_hang_88 ⟨Nat.le_of_ble_eq_true rfl, Nat.le_of_ble_eq_true rfl⟩) (fun r_h_17 h_17 => ?_)
              rcases h_17 with ⟨rfl, h_17⟩ | ⟨rfl, h_17⟩
              · refine lv_if_ne (tgt := 100) hx hb dX1_hang_91 (by decide) (fun c_18 => ?_) (fun c_18 => absurd c_18 (by decide))
                refine lv_aload_n hx hb dX1_hang_100 rfl (lv_at hl 0 rfl) ?_
                refine va_get (D := D) (ci := 4) (v := .ref (a 5)) (C := RX1) (T := TX1) (N := 9) hx hb hts hinX1 hown hK hP 0 rfl rfl 4 (by decide) (hts (.fieldLink RX1 22 "LoanCases" "places" "[I") (by decide +kernel)) (fun _ h9 => h9) rfl dX1_hang_101 ?_
                refine lv_iload_n hx hb dX1_hang_104 rfl (lv_at hl 1 rfl) ?_
                refine lv_bipush (v := 10) hx hb dX1_hang_105 (by decide) ?_
                refine lv_imul hx hb dX1_hang_107 ?_
                refine lv_iload_n hx hb dX1_hang_108 rfl (lv_at hl 3 rfl) ?_
                refine lv_iadd hx hb dX1_hang_109 ?_
                refine lv_iload hx hb dX1_hang_110 (lv_at hl 4 rfl) ?_
                refine va_iast hx hb hK hP hD hS 5 0 rfl rfl (pl_in (xT_in hn h_1) h_13.1 h_13.2 (hz10 _ (Nat.lt_of_not_le fun h7 => (xT_in hn h_1) (Or.inr h7)))) dX1_hang_112 (fun H locs hP hD hS => ?_)
                have hP : va_P D vwCl (xW kI kL a q (sU S 4 (((t * 10) + i).toNatClampNeg) o) N F B) H := hP
                have hD : va_D A (xW kI kL a q (sU S 4 (((t * 10) + i).toNatClampNeg) o) N F B) := hD
                refine lv_iconst (v := 1) hx hb dX1_hang_113 (by decide) ?_
                exact W.iret (v := 1) hx hb hr (fun t9 ht hW => ⟨⟨1, ((sU S 4 (((t * 10) + i).toNatClampNeg) o), N), rfl, ⟨by simp only [xs_hang, cif_t h_1, cif_t h_3, cif_t h_5, cif_t h_7, cif_t h_11, cif_t h_13, cif_t h_17], by simp only [xs_hang, cif_t h_1, cif_t h_3, cif_t h_5, cif_t h_7, cif_t h_11, cif_t h_13, cif_t h_17]⟩, by rw [ht]; exact hP, va_K.moved hW.alike hK, by rw [hAe]; exact hD⟩, hS.F ht⟩) hS.2.2 dX1_hang_114
              · refine lv_if_ne (tgt := 100) hx hb dX1_hang_91 (by decide) (fun c_19 => absurd c_19 (by decide)) (fun c_19 => ?_)
                refine lv_aload_n hx hb dX1_hang_94 rfl (lv_at hl 0 rfl) ?_
                refine lv_iconst (v := 4) hx hb dX1_hang_95 (by decide) ?_
                refine qw_i (w2 := []) (va_runV (As := [.int 4]) (rest := []) ⟨hx, hb, hml, hown, hts⟩ (c_X1_found l D kI kJ kL a q S N F B s.heap.size 4 (by unfold vp_in; decide)) (cwV 1 hts gX1_hang_X1_found rfl rfl rfl (by decide +kernel) ⟨Nat.le_of_ble_eq_true rfl, Nat.le_of_ble_eq_true rfl⟩) (q_wV (w2 := []) hK hN (by rw [List.append_nil]; exact hP) (by rw [List.append_nil]; exact hD) (va_recv hK hP (ci := 4) (q0 := 0) rfl rfl)) rfl rfl hl.1 rfl (lv_room (Nat.le_of_ble_eq_true rfl)) dX1_hang_96 ⟨Nat.le_of_ble_eq_true rfl, Nat.le_of_ble_eq_true rfl⟩) (by rw [List.append_nil]; exact hP) (by rw [List.append_nil]; exact hD) hS hA (fun r_21 u_22 H locs h_20 hP hD hS => ?_)
                rw [List.append_nil] at hP hD
                obtain ⟨rfl, rfl⟩ := h_20
                have hP : va_P D vwCl (xW kI kL a q (xfd S 4) N F B) H := hP
                have hD : va_D A (xW kI kL a q (xfd S 4) N F B) := hD
                exact W.iret (v := (-30 - 4)) hx hb hr (fun t9 ht hW => ⟨⟨(-30 - 4), ((xfd S 4), N), rfl, ⟨by simp only [xs_hang, cif_t h_1, cif_t h_3, cif_t h_5, cif_t h_7, cif_t h_11, cif_t h_13, cif_f h_17], by simp only [xs_hang, cif_t h_1, cif_t h_3, cif_t h_5, cif_t h_7, cif_t h_11, cif_t h_13, cif_f h_17]⟩, by rw [ht]; exact hP, va_K.moved hW.alike hK, by rw [hAe]; exact hD⟩, hS.F ht⟩) hS.2.2 dX1_hang_99
            · refine lv_if_ne (tgt := 76) hx hb dX1_hang_67 (by decide) (fun c_23 => absurd c_23 (by decide)) (fun c_23 => ?_)
              refine lv_aload_n hx hb dX1_hang_70 rfl (lv_at hl 0 rfl) ?_
              refine lv_iconst (v := 3) hx hb dX1_hang_71 (by decide) ?_
              refine qw_i (w2 := []) (va_runV (As := [.int 3]) (rest := []) ⟨hx, hb, hml, hown, hts⟩ (c_X1_found l D kI kJ kL a q S N F B s.heap.size 3 (by unfold vp_in; decide)) (cwV 1 hts gX1_hang_X1_found rfl rfl rfl (by decide +kernel) ⟨Nat.le_of_ble_eq_true rfl, Nat.le_of_ble_eq_true rfl⟩) (q_wV (w2 := []) hK hN (by rw [List.append_nil]; exact hP) (by rw [List.append_nil]; exact hD) (va_recv hK hP (ci := 4) (q0 := 0) rfl rfl)) rfl rfl hl.1 rfl (lv_room (Nat.le_of_ble_eq_true rfl)) dX1_hang_72 ⟨Nat.le_of_ble_eq_true rfl, Nat.le_of_ble_eq_true rfl⟩) (by rw [List.append_nil]; exact hP) (by rw [List.append_nil]; exact hD) hS hA (fun r_25 u_26 H locs h_24 hP hD hS => ?_)
              rw [List.append_nil] at hP hD
              obtain ⟨rfl, rfl⟩ := h_24
              have hP : va_P D vwCl (xW kI kL a q (xfd S 3) N F B) H := hP
              have hD : va_D A (xW kI kL a q (xfd S 3) N F B) := hD
              exact W.iret (v := (-30 - 3)) hx hb hr (fun t9 ht hW => ⟨⟨(-30 - 3), ((xfd S 3), N), rfl, ⟨by simp only [xs_hang, cif_t h_1, cif_t h_3, cif_t h_5, cif_t h_7, cif_t h_11, cif_f h_13], by simp only [xs_hang, cif_t h_1, cif_t h_3, cif_t h_5, cif_t h_7, cif_t h_11, cif_f h_13]⟩, by rw [ht]; exact hP, va_K.moved hW.alike hK, by rw [hAe]; exact hD⟩, hS.F ht⟩) hS.2.2 dX1_hang_75
          · refine lv_if_ne (tgt := 61) hx hb dX1_hang_52 (by decide) (fun c_27 => absurd c_27 (by decide)) (fun c_27 => ?_)
            refine lv_aload_n hx hb dX1_hang_55 rfl (lv_at hl 0 rfl) ?_
            refine lv_iconst (v := 1) hx hb dX1_hang_56 (by decide) ?_
            refine qw_i (w2 := []) (va_runV (As := [.int 1]) (rest := []) ⟨hx, hb, hml, hown, hts⟩ (c_X1_found l D kI kJ kL a q S N F B s.heap.size 1 (by unfold vp_in; decide)) (cwV 1 hts gX1_hang_X1_found rfl rfl rfl (by decide +kernel) ⟨Nat.le_of_ble_eq_true rfl, Nat.le_of_ble_eq_true rfl⟩) (q_wV (w2 := []) hK hN (by rw [List.append_nil]; exact hP) (by rw [List.append_nil]; exact hD) (va_recv hK hP (ci := 4) (q0 := 0) rfl rfl)) rfl rfl hl.1 rfl (lv_room (Nat.le_of_ble_eq_true rfl)) dX1_hang_57 ⟨Nat.le_of_ble_eq_true rfl, Nat.le_of_ble_eq_true rfl⟩) (by rw [List.append_nil]; exact hP) (by rw [List.append_nil]; exact hD) hS hA (fun r_29 u_30 H locs h_28 hP hD hS => ?_)
            rw [List.append_nil] at hP hD
            obtain ⟨rfl, rfl⟩ := h_28
            have hP : va_P D vwCl (xW kI kL a q (xfd S 1) N F B) H := hP
            have hD : va_D A (xW kI kL a q (xfd S 1) N F B) := hD
            exact W.iret (v := (-30 - 1)) hx hb hr (fun t9 ht hW => ⟨⟨(-30 - 1), ((xfd S 1), N), rfl, ⟨by simp only [xs_hang, cif_t h_1, cif_t h_3, cif_t h_5, cif_t h_7, cif_f h_11], by simp only [xs_hang, cif_t h_1, cif_t h_3, cif_t h_5, cif_t h_7, cif_f h_11]⟩, by rw [ht]; exact hP, va_K.moved hW.alike hK, by rw [hAe]; exact hD⟩, hS.F ht⟩) hS.2.2 dX1_hang_60
        · refine lv_if_eq (tgt := 55) hx hb dX1_hang_39 (by decide) (fun c_31 => ?_) (fun c_31 => absurd c_31 (by decide))
          refine lv_aload_n hx hb dX1_hang_55 rfl (lv_at hl 0 rfl) ?_
          refine lv_iconst (v := 1) hx hb dX1_hang_56 (by decide) ?_
          refine qw_i (w2 := []) (va_runV (As := [.int 1]) (rest := []) ⟨hx, hb, hml, hown, hts⟩ (c_X1_found l D kI kJ kL a q S N F B s.heap.size 1 (by unfold vp_in; decide)) (cwV 1 hts gX1_hang_X1_found rfl rfl rfl (by decide +kernel) ⟨Nat.le_of_ble_eq_true rfl, Nat.le_of_ble_eq_true rfl⟩) (q_wV (w2 := []) hK hN (by rw [List.append_nil]; exact hP) (by rw [List.append_nil]; exact hD) (va_recv hK hP (ci := 4) (q0 := 0) rfl rfl)) rfl rfl hl.1 rfl (lv_room (Nat.le_of_ble_eq_true rfl)) dX1_hang_57 ⟨Nat.le_of_ble_eq_true rfl, Nat.le_of_ble_eq_true rfl⟩) (by rw [List.append_nil]; exact hP) (by rw [List.append_nil]; exact hD) hS hA (fun r_33 u_34 H locs h_32 hP hD hS => ?_)
          rw [List.append_nil] at hP hD
          obtain ⟨rfl, rfl⟩ := h_32
          have hP : va_P D vwCl (xW kI kL a q (xfd S 1) N F B) H := hP
          have hD : va_D A (xW kI kL a q (xfd S 1) N F B) := hD
          exact W.iret (v := (-30 - 1)) hx hb hr (fun t9 ht hW => ⟨⟨(-30 - 1), ((xfd S 1), N), rfl, ⟨by simp only [xs_hang, cif_t h_1, cif_t h_3, cif_t h_5, cif_f h_7], by simp only [xs_hang, cif_t h_1, cif_t h_3, cif_t h_5, cif_f h_7]⟩, by rw [ht]; exact hP, va_K.moved hW.alike hK, by rw [hAe]; exact hD⟩, hS.F ht⟩) hS.2.2 dX1_hang_60
      · refine lv_if_ne (tgt := 33) hx hb dX1_hang_27 (by decide) (fun c_35 => absurd c_35 (by decide)) (fun c_35 => ?_)
        refine lv_bipush (v := -2) hx hb dX1_hang_30 (by decide) ?_
        exact W.iret (v := (-2)) hx hb hr (fun t9 ht hW => ⟨⟨(-2), (S, N), rfl, ⟨by simp only [xs_hang, cif_t h_1, cif_t h_3, cif_f h_5], by simp only [xs_hang, cif_t h_1, cif_t h_3, cif_f h_5]⟩, by rw [ht]; exact hP, va_K.moved hW.alike hK, by rw [hAe]; exact hD⟩, hS.F ht⟩) hS.2.2 dX1_hang_32
    · refine lv_if_ne (tgt := 19) hx hb dX1_hang_14 (by decide) (fun c_36 => absurd c_36 (by decide)) (fun c_36 => ?_)
      refine lv_iconst (v := -1) hx hb dX1_hang_17 (by decide) ?_
      exact W.iret (v := (-1)) hx hb hr (fun t9 ht hW => ⟨⟨(-1), (S, N), rfl, ⟨by simp only [xs_hang, cif_t h_1, cif_f h_3], by simp only [xs_hang, cif_t h_1, cif_f h_3]⟩, by rw [ht]; exact hP, va_K.moved hW.alike hK, by rw [hAe]; exact hD⟩, hS.F ht⟩) hS.2.2 dX1_hang_18
  · refine lv_if_eq (tgt := 17) hx hb dX1_hang_5 (by decide) (fun c_37 => ?_) (fun c_37 => absurd c_37 (by decide))
    refine lv_iconst (v := -1) hx hb dX1_hang_17 (by decide) ?_
    exact W.iret (v := (-1)) hx hb hr (fun t9 ht hW => ⟨⟨(-1), (S, N), rfl, ⟨by simp only [xs_hang, cif_f h_1], by simp only [xs_hang, cif_f h_1]⟩, by rw [ht]; exact hP, va_K.moved hW.alike hK, by rw [hAe]; exact hD⟩, hS.F ht⟩) hS.2.2 dX1_hang_18

set_option maxHeartbeats 4000000 in
set_option maxRecDepth 100000 in
theorem c_X1_at (l : Launch) (D : va_G) (kI kJ kL : ClassId) (a q : Nat → Nat) (S : Nat → Nat → Int32) (N : Nat → Nat → Nat → Int32) (F : Nat → Option Nat) (B : Nat) (sz : Nat) (t : Int32) (k : Int32) (i : Int32) (hn : (S 6 0).toInt ≤ 110) (hz10 : ∀ t, t < 110 → (S 2 t).toInt ≤ 10) : Met l yX1_at wsX1_at ({ frames := 2, cells := 0, slots := 0, locals := 43 }) (q_wP D (xTY kI kJ kL) (xW kI kL a q S N F B) sz [.ref (a 0), .int t, .int k, .int i]) (va_Qi (fun r (u : (Nat → Nat → Int32) × (Nat → Nat → Nat → Int32)) => r = (xs_at S t k i).1 ∧ u = ((xs_at S t k i).2, N)) (q_wB D (xTY kI kJ kL) (xW kI kL a q S N F B) sz (fun u : (Nat → Nat → Int32) × (Nat → Nat → Nat → Int32) => xW kI kL a q u.1 u.2 F B)) (va_A (xW kI kL a q S N F B) sz)) 0 0 (va_A (xW kI kL a q S N F B) sz) := by
  refine Met.ofW (cc := cX1_at) (maxL := 4) (ret := (some .int)) (by decide) rfl ?_
  intro p e s m args below meth c s₁ Bd hml hv
  obtain ⟨rfl, hsz, hP, hK, hD0, hN⟩ := hv
  have hx := Bd.exec
  have hb := Bd.bytes
  have hr := Bd.returns
  have hts := atoms_spec (ws := wsX1_at) Bd.pre
  have hown : s.vm.findClass RX1 = some m.cls := findClass_of_methodNamed Bd.named
  have hlocks := Bd.notSynchronized
  subst hsz
  have hD := hD0.self (sz := s.heap.size)
  generalize hAe : va_A (xW kI kL a q S N F B) s.heap.size = A at hD ⊢
  have hA : ∀ q : Nat, s.heap.size ≤ q → A q := fun q h => by rw [← hAe]; exact Or.inr h
  have hS : va_S A s.heap s.heap [] := va_S.rf
  have hl := lv_entry ([.ref (a 0), .int t, .int k, .int i]) (n := 4) (Nat.le_of_ble_eq_true rfl)
  rw [lg_entry_eq]
  generalize (lg_sl ([.ref (a 0), .int t, .int k, .int i]) ++ List.replicate (4 - (lg_sl ([.ref (a 0), .int t, .int k, .int i])).length) Slot.unset).toArray = ls at hl ⊢
  have hl : lv_has ls 4 [(0, .ref (a 0)), (1, .int t), (2, .int k), (3, .int i)] := hl
  have hinX1 : ∀ w ∈ u_ws RX1 TX1 9, w ∈ wsX1_at := by decide +kernel
  refine lv_aload_n hx hb dX1_at_0 rfl (lv_at hl 0 rfl) ?_
  refine lv_iload_n hx hb dX1_at_1 rfl (lv_at hl 1 rfl) ?_
  refine vp_callSi (W.runV (As := [.int t]) (rest := []) ⟨hx, hb, hml, hown, hts⟩ (c_X1_isThing l D kI kJ kL a q S N F B t) (cwV 1 hts gX1_at_X1_isThing rfl rfl rfl (by decide +kernel) ⟨Nat.le_of_ble_eq_true rfl, Nat.le_of_ble_eq_true rfl⟩) (q_rV (w2 := []) hK hN (by rw [List.append_nil]; exact hP) (va_recv hK hP (ci := 4) (q0 := 0) rfl rfl)) rfl rfl hl.1 rfl (lv_room (Nat.le_of_ble_eq_true rfl)) dX1_at_2 ⟨Nat.le_of_ble_eq_true rfl, Nat.le_of_ble_eq_true rfl⟩) (fun r_h_1 h_1 => ?_)
  rcases h_1 with ⟨rfl, h_1⟩ | ⟨rfl, h_1⟩
  · refine lv_if_ne (tgt := 10) hx hb dX1_at_5 (by decide) (fun c_2 => ?_) (fun c_2 => absurd c_2 (by decide))
    refine lv_iload_n hx hb dX1_at_10 rfl (lv_at hl 2 rfl) ?_
    refine lv_bipush (v := 9) hx hb dX1_at_11 (by decide) ?_
    refine lv_bipush (v := 17) hx hb dX1_at_13 (by decide) ?_
    refine vp_callSi (W.runS (As := [.int k, .int 9, .int 17]) (rest := []) ⟨hx, hb, hml, hown, hts⟩ (c_X1_between l D kI kJ kL k 9 17) (va_cwS 3 hts gX1_at_X1_between rfl rfl rfl (by decide +kernel) ⟨Nat.le_of_ble_eq_true rfl, Nat.le_of_ble_eq_true rfl⟩) (q_rS0 hK hN) rfl rfl hl.1 rfl (lv_room (Nat.le_of_ble_eq_true rfl)) dX1_at_15 ⟨Nat.le_of_ble_eq_true rfl, Nat.le_of_ble_eq_true rfl⟩) (fun r_h_3 h_3 => ?_)
    rcases h_3 with ⟨rfl, h_3⟩ | ⟨rfl, h_3⟩
    · refine lv_if_ne (tgt := 24) hx hb dX1_at_18 (by decide) (fun c_4 => ?_) (fun c_4 => absurd c_4 (by decide))
      refine lv_aload_n hx hb dX1_at_24 rfl (lv_at hl 0 rfl) ?_
      refine lv_iload_n hx hb dX1_at_25 rfl (lv_at hl 1 rfl) ?_
      refine lv_iload_n hx hb dX1_at_26 rfl (lv_at hl 2 rfl) ?_
      refine vp_callSi (W.runV (As := [.int t, .int k]) (rest := []) ⟨hx, hb, hml, hown, hts⟩ (c_X1_isOf l D kI kJ kL a q S N F B t k hn) (cwV 2 hts gX1_at_X1_isOf rfl rfl rfl (by decide +kernel) ⟨Nat.le_of_ble_eq_true rfl, Nat.le_of_ble_eq_true rfl⟩) (q_rV (w2 := []) hK hN (by rw [List.append_nil]; exact hP) (va_recv hK hP (ci := 4) (q0 := 0) rfl rfl)) rfl rfl hl.1 rfl (lv_room (Nat.le_of_ble_eq_true rfl)) dX1_at_27 ⟨Nat.le_of_ble_eq_true rfl, Nat.le_of_ble_eq_true rfl⟩) (fun r_h_5 h_5 => ?_)
      rcases h_5 with ⟨rfl, h_5⟩ | ⟨rfl, h_5⟩
      · refine lv_if_ne (tgt := 39) hx hb dX1_at_30 (by decide) (fun c_6 => ?_) (fun c_6 => absurd c_6 (by decide))
        refine lv_aload_n hx hb dX1_at_39 rfl (lv_at hl 0 rfl) ?_
        refine lv_iload_n hx hb dX1_at_40 rfl (lv_at hl 1 rfl) ?_
        refine lv_iload_n hx hb dX1_at_41 rfl (lv_at hl 3 rfl) ?_
        refine vp_callSi (W.runV (As := [.int t, .int i]) (rest := []) ⟨hx, hb, hml, hown, hts⟩ (c_X1_hasPlace l D kI kJ kL a q S N F B t i (xT_in hn h_1)) (cwV 2 hts gX1_at_X1_hasPlace rfl rfl rfl (by decide +kernel) ⟨Nat.le_of_ble_eq_true rfl, Nat.le_of_ble_eq_true rfl⟩) (q_rV (w2 := []) hK hN (by rw [List.append_nil]; exact hP) (va_recv hK hP (ci := 4) (q0 := 0) rfl rfl)) rfl rfl hl.1 rfl (lv_room (Nat.le_of_ble_eq_true rfl)) dX1_at_42 ⟨Nat.le_of_ble_eq_true rfl, Nat.le_of_ble_eq_true rfl⟩) (fun r_h_7 h_7 => ?_)
        rcases h_7 with ⟨rfl, h_7⟩ | ⟨rfl, h_7⟩
        · refine lv_if_ne (tgt := 54) hx hb dX1_at_45 (by decide) (fun c_8 => ?_) (fun c_8 => absurd c_8 (by decide))
          refine lv_aload_n hx hb dX1_at_54 rfl (lv_at hl 0 rfl) ?_
          refine va_get (D := D) (ci := 4) (v := .ref (a 5)) (C := RX1) (T := TX1) (N := 9) hx hb hts hinX1 hown hK hP 0 rfl rfl 4 (by decide) (hts (.fieldLink RX1 22 "LoanCases" "places" "[I") (by decide +kernel)) (fun _ h9 => h9) rfl dX1_at_55 ?_
          refine lv_iload_n hx hb dX1_at_58 rfl (lv_at hl 1 rfl) ?_
          refine lv_bipush (v := 10) hx hb dX1_at_59 (by decide) ?_
          refine lv_imul hx hb dX1_at_61 ?_
          refine lv_iload_n hx hb dX1_at_62 rfl (lv_at hl 3 rfl) ?_
          refine lv_iadd hx hb dX1_at_63 ?_
          refine va_iald (f := S 4) hx hb hK hP 5 0 rfl rfl (pl_in (xT_in hn h_1) h_7.1 h_7.2 (hz10 _ (Nat.lt_of_not_le fun h7 => (xT_in hn h_1) (Or.inr h7)))) dX1_at_64 ?_
          exact W.iret (v := (S 4 ((t * 10) + i).toNatClampNeg)) hx hb hr (fun t9 ht hW => ⟨⟨(S 4 ((t * 10) + i).toNatClampNeg), (S, N), rfl, ⟨by simp only [xs_at, cif_t h_1, cif_t h_3, cif_t h_5, cif_t h_7], by simp only [xs_at, cif_t h_1, cif_t h_3, cif_t h_5, cif_t h_7]⟩, by rw [ht]; exact hP, va_K.moved hW.alike hK, by rw [hAe]; exact hD⟩, hS.F ht⟩) hS.2.2 dX1_at_65
        · refine lv_if_ne (tgt := 54) hx hb dX1_at_45 (by decide) (fun c_9 => absurd c_9 (by decide)) (fun c_9 => ?_)
          refine lv_aload_n hx hb dX1_at_48 rfl (lv_at hl 0 rfl) ?_
          refine lv_iconst (v := 3) hx hb dX1_at_49 (by decide) ?_
          refine qw_i (w2 := []) (va_runV (As := [.int 3]) (rest := []) ⟨hx, hb, hml, hown, hts⟩ (c_X1_found l D kI kJ kL a q S N F B s.heap.size 3 (by unfold vp_in; decide)) (cwV 1 hts gX1_at_X1_found rfl rfl rfl (by decide +kernel) ⟨Nat.le_of_ble_eq_true rfl, Nat.le_of_ble_eq_true rfl⟩) (q_wV (w2 := []) hK hN (by rw [List.append_nil]; exact hP) (by rw [List.append_nil]; exact hD) (va_recv hK hP (ci := 4) (q0 := 0) rfl rfl)) rfl rfl hl.1 rfl (lv_room (Nat.le_of_ble_eq_true rfl)) dX1_at_50 ⟨Nat.le_of_ble_eq_true rfl, Nat.le_of_ble_eq_true rfl⟩) (by rw [List.append_nil]; exact hP) (by rw [List.append_nil]; exact hD) hS hA (fun r_11 u_12 H locs h_10 hP hD hS => ?_)
          rw [List.append_nil] at hP hD
          obtain ⟨rfl, rfl⟩ := h_10
          have hP : va_P D vwCl (xW kI kL a q (xfd S 3) N F B) H := hP
          have hD : va_D A (xW kI kL a q (xfd S 3) N F B) := hD
          exact W.iret (v := (-30 - 3)) hx hb hr (fun t9 ht hW => ⟨⟨(-30 - 3), ((xfd S 3), N), rfl, ⟨by simp only [xs_at, cif_t h_1, cif_t h_3, cif_t h_5, cif_f h_7], by simp only [xs_at, cif_t h_1, cif_t h_3, cif_t h_5, cif_f h_7]⟩, by rw [ht]; exact hP, va_K.moved hW.alike hK, by rw [hAe]; exact hD⟩, hS.F ht⟩) hS.2.2 dX1_at_53
      · refine lv_if_ne (tgt := 39) hx hb dX1_at_30 (by decide) (fun c_13 => absurd c_13 (by decide)) (fun c_13 => ?_)
        refine lv_aload_n hx hb dX1_at_33 rfl (lv_at hl 0 rfl) ?_
        refine lv_iconst (v := 1) hx hb dX1_at_34 (by decide) ?_
        refine qw_i (w2 := []) (va_runV (As := [.int 1]) (rest := []) ⟨hx, hb, hml, hown, hts⟩ (c_X1_found l D kI kJ kL a q S N F B s.heap.size 1 (by unfold vp_in; decide)) (cwV 1 hts gX1_at_X1_found rfl rfl rfl (by decide +kernel) ⟨Nat.le_of_ble_eq_true rfl, Nat.le_of_ble_eq_true rfl⟩) (q_wV (w2 := []) hK hN (by rw [List.append_nil]; exact hP) (by rw [List.append_nil]; exact hD) (va_recv hK hP (ci := 4) (q0 := 0) rfl rfl)) rfl rfl hl.1 rfl (lv_room (Nat.le_of_ble_eq_true rfl)) dX1_at_35 ⟨Nat.le_of_ble_eq_true rfl, Nat.le_of_ble_eq_true rfl⟩) (by rw [List.append_nil]; exact hP) (by rw [List.append_nil]; exact hD) hS hA (fun r_15 u_16 H locs h_14 hP hD hS => ?_)
        rw [List.append_nil] at hP hD
        obtain ⟨rfl, rfl⟩ := h_14
        have hP : va_P D vwCl (xW kI kL a q (xfd S 1) N F B) H := hP
        have hD : va_D A (xW kI kL a q (xfd S 1) N F B) := hD
        exact W.iret (v := (-30 - 1)) hx hb hr (fun t9 ht hW => ⟨⟨(-30 - 1), ((xfd S 1), N), rfl, ⟨by simp only [xs_at, cif_t h_1, cif_t h_3, cif_f h_5], by simp only [xs_at, cif_t h_1, cif_t h_3, cif_f h_5]⟩, by rw [ht]; exact hP, va_K.moved hW.alike hK, by rw [hAe]; exact hD⟩, hS.F ht⟩) hS.2.2 dX1_at_38
    · refine lv_if_ne (tgt := 24) hx hb dX1_at_18 (by decide) (fun c_17 => absurd c_17 (by decide)) (fun c_17 => ?_)
      refine lv_bipush (v := -2) hx hb dX1_at_21 (by decide) ?_
      exact W.iret (v := (-2)) hx hb hr (fun t9 ht hW => ⟨⟨(-2), (S, N), rfl, ⟨by simp only [xs_at, cif_t h_1, cif_f h_3], by simp only [xs_at, cif_t h_1, cif_f h_3]⟩, by rw [ht]; exact hP, va_K.moved hW.alike hK, by rw [hAe]; exact hD⟩, hS.F ht⟩) hS.2.2 dX1_at_23
  · refine lv_if_ne (tgt := 10) hx hb dX1_at_5 (by decide) (fun c_18 => absurd c_18 (by decide)) (fun c_18 => ?_)
    refine lv_iconst (v := -1) hx hb dX1_at_8 (by decide) ?_
    exact W.iret (v := (-1)) hx hb hr (fun t9 ht hW => ⟨⟨(-1), (S, N), rfl, ⟨by simp only [xs_at, cif_f h_1], by simp only [xs_at, cif_f h_1]⟩, by rw [ht]; exact hP, va_K.moved hW.alike hK, by rw [hAe]; exact hD⟩, hS.F ht⟩) hS.2.2 dX1_at_9

set_option maxHeartbeats 4000000 in
set_option maxRecDepth 100000 in
theorem c_X1_deep (l : Launch) (D : va_G) (kI kJ kL : ClassId) (a q : Nat → Nat) (S : Nat → Nat → Int32) (N : Nat → Nat → Nat → Int32) (F : Nat → Option Nat) (B : Nat) (sz : Nat) (t : Int32) (k : Int32) (i : Int32) (z : Int32) (hn : (S 6 0).toInt ≤ 110) (hz10 : ∀ t, t < 110 → (S 2 t).toInt ≤ 10) : Met l yX1_deep wsX1_deep ({ frames := 2, cells := 0, slots := 0, locals := 43 }) (q_wP D (xTY kI kJ kL) (xW kI kL a q S N F B) sz [.ref (a 0), .int t, .int k, .int i, .int z]) (va_Qi (fun r (u : (Nat → Nat → Int32) × (Nat → Nat → Nat → Int32)) => r = (xs_deep S t k i z).1 ∧ u = ((xs_deep S t k i z).2, N)) (q_wB D (xTY kI kJ kL) (xW kI kL a q S N F B) sz (fun u : (Nat → Nat → Int32) × (Nat → Nat → Nat → Int32) => xW kI kL a q u.1 u.2 F B)) (va_A (xW kI kL a q S N F B) sz)) 0 0 (va_A (xW kI kL a q S N F B) sz) := by
  refine Met.ofW (cc := cX1_deep) (maxL := 6) (ret := (some .int)) (by decide) rfl ?_
  intro p e s m args below meth c s₁ Bd hml hv
  obtain ⟨rfl, hsz, hP, hK, hD0, hN⟩ := hv
  have hx := Bd.exec
  have hb := Bd.bytes
  have hr := Bd.returns
  have hts := atoms_spec (ws := wsX1_deep) Bd.pre
  have hown : s.vm.findClass RX1 = some m.cls := findClass_of_methodNamed Bd.named
  have hlocks := Bd.notSynchronized
  subst hsz
  have hD := hD0.self (sz := s.heap.size)
  generalize hAe : va_A (xW kI kL a q S N F B) s.heap.size = A at hD ⊢
  have hA : ∀ q : Nat, s.heap.size ≤ q → A q := fun q h => by rw [← hAe]; exact Or.inr h
  have hS : va_S A s.heap s.heap [] := va_S.rf
  have hl := lv_entry ([.ref (a 0), .int t, .int k, .int i, .int z]) (n := 6) (Nat.le_of_ble_eq_true rfl)
  rw [lg_entry_eq]
  generalize (lg_sl ([.ref (a 0), .int t, .int k, .int i, .int z]) ++ List.replicate (6 - (lg_sl ([.ref (a 0), .int t, .int k, .int i, .int z])).length) Slot.unset).toArray = ls at hl ⊢
  have hl : lv_has ls 6 [(0, .ref (a 0)), (1, .int t), (2, .int k), (3, .int i), (4, .int z)] := hl
  have hinX1 : ∀ w ∈ u_ws RX1 TX1 9, w ∈ wsX1_deep := by decide +kernel
  refine lv_aload_n hx hb dX1_deep_0 rfl (lv_at hl 0 rfl) ?_
  refine lv_iload_n hx hb dX1_deep_1 rfl (lv_at hl 1 rfl) ?_
  refine vp_callSi (W.runV (As := [.int t]) (rest := []) ⟨hx, hb, hml, hown, hts⟩ (c_X1_isThing l D kI kJ kL a q S N F B t) (cwV 1 hts gX1_deep_X1_isThing rfl rfl rfl (by decide +kernel) ⟨Nat.le_of_ble_eq_true rfl, Nat.le_of_ble_eq_true rfl⟩) (q_rV (w2 := []) hK hN (by rw [List.append_nil]; exact hP) (va_recv hK hP (ci := 4) (q0 := 0) rfl rfl)) rfl rfl hl.1 rfl (lv_room (Nat.le_of_ble_eq_true rfl)) dX1_deep_2 ⟨Nat.le_of_ble_eq_true rfl, Nat.le_of_ble_eq_true rfl⟩) (fun r_h_1 h_1 => ?_)
  rcases h_1 with ⟨rfl, h_1⟩ | ⟨rfl, h_1⟩
  · refine lv_if_ne (tgt := 10) hx hb dX1_deep_5 (by decide) (fun c_2 => ?_) (fun c_2 => absurd c_2 (by decide))
    refine lv_iload_n hx hb dX1_deep_10 rfl (lv_at hl 2 rfl) ?_
    refine lv_bipush (v := 9) hx hb dX1_deep_11 (by decide) ?_
    refine lv_icmp_eq (tgt := 31) hx hb dX1_deep_13 (by decide) (fun c_3 => ?_) (fun c_3 => ?_)
    · refine lv_aload_n hx hb dX1_deep_31 rfl (lv_at hl 0 rfl) ?_
      refine lv_iload_n hx hb dX1_deep_32 rfl (lv_at hl 1 rfl) ?_
      refine lv_iload_n hx hb dX1_deep_33 rfl (lv_at hl 2 rfl) ?_
      refine vp_callSi (W.runV (As := [.int t, .int k]) (rest := []) ⟨hx, hb, hml, hown, hts⟩ (c_X1_isOf l D kI kJ kL a q S N F B t k hn) (cwV 2 hts gX1_deep_X1_isOf rfl rfl rfl (by decide +kernel) ⟨Nat.le_of_ble_eq_true rfl, Nat.le_of_ble_eq_true rfl⟩) (q_rV (w2 := []) hK hN (by rw [List.append_nil]; exact hP) (va_recv hK hP (ci := 4) (q0 := 0) rfl rfl)) rfl rfl hl.1 rfl (lv_room (Nat.le_of_ble_eq_true rfl)) dX1_deep_34 ⟨Nat.le_of_ble_eq_true rfl, Nat.le_of_ble_eq_true rfl⟩) (fun r_h_4 h_4 => ?_)
      rcases h_4 with ⟨rfl, h_4⟩ | ⟨rfl, h_4⟩
      · refine lv_if_ne (tgt := 46) hx hb dX1_deep_37 (by decide) (fun c_5 => ?_) (fun c_5 => absurd c_5 (by decide))
        refine lv_aload_n hx hb dX1_deep_46 rfl (lv_at hl 0 rfl) ?_
        refine lv_iload_n hx hb dX1_deep_47 rfl (lv_at hl 1 rfl) ?_
        refine lv_iload_n hx hb dX1_deep_48 rfl (lv_at hl 3 rfl) ?_
        refine vp_callSi (W.runV (As := [.int t, .int i]) (rest := []) ⟨hx, hb, hml, hown, hts⟩ (c_X1_hasPlace l D kI kJ kL a q S N F B t i (xT_in hn h_1)) (cwV 2 hts gX1_deep_X1_hasPlace rfl rfl rfl (by decide +kernel) ⟨Nat.le_of_ble_eq_true rfl, Nat.le_of_ble_eq_true rfl⟩) (q_rV (w2 := []) hK hN (by rw [List.append_nil]; exact hP) (va_recv hK hP (ci := 4) (q0 := 0) rfl rfl)) rfl rfl hl.1 rfl (lv_room (Nat.le_of_ble_eq_true rfl)) dX1_deep_49 ⟨Nat.le_of_ble_eq_true rfl, Nat.le_of_ble_eq_true rfl⟩) (fun r_h_6 h_6 => ?_)
        rcases h_6 with ⟨rfl, h_6⟩ | ⟨rfl, h_6⟩
        · refine lv_if_ne (tgt := 61) hx hb dX1_deep_52 (by decide) (fun c_7 => ?_) (fun c_7 => absurd c_7 (by decide))
          refine lv_aload_n hx hb dX1_deep_61 rfl (lv_at hl 0 rfl) ?_
          refine va_get (D := D) (ci := 4) (v := .ref (a 5)) (C := RX1) (T := TX1) (N := 9) hx hb hts hinX1 hown hK hP 0 rfl rfl 4 (by decide) (hts (.fieldLink RX1 22 "LoanCases" "places" "[I") (by decide +kernel)) (fun _ h9 => h9) rfl dX1_deep_62 ?_
          refine lv_iload_n hx hb dX1_deep_65 rfl (lv_at hl 1 rfl) ?_
          refine lv_bipush (v := 10) hx hb dX1_deep_66 (by decide) ?_
          refine lv_imul hx hb dX1_deep_68 ?_
          refine lv_iload_n hx hb dX1_deep_69 rfl (lv_at hl 3 rfl) ?_
          refine lv_iadd hx hb dX1_deep_70 ?_
          refine va_iald (f := S 4) hx hb hK hP 5 0 rfl rfl (pl_in (xT_in hn h_1) h_6.1 h_6.2 (hz10 _ (Nat.lt_of_not_le fun h7 => (xT_in hn h_1) (Or.inr h7)))) dX1_deep_71 ?_
          refine lv_istore (lv' := [(5, .int (S 4 ((t * 10) + i).toNatClampNeg)), (0, .ref (a 0)), (1, .int t), (2, .int k), (3, .int i), (4, .int z)]) hx hb dX1_deep_72 hl (by decide) rfl (fun ls hl => ?_)
          refine lv_aload_n hx hb dX1_deep_74 rfl (lv_at hl 1 rfl) ?_
          refine lv_iload hx hb dX1_deep_75 (lv_at hl 0 rfl) ?_
          refine vp_callSi (W.runV (As := [.int (S 4 ((t * 10) + i).toNatClampNeg)]) (rest := []) ⟨hx, hb, hml, hown, hts⟩ (c_X1_isThing l D kI kJ kL a q S N F B (S 4 ((t * 10) + i).toNatClampNeg)) (cwV 1 hts gX1_deep_X1_isThing rfl rfl rfl (by decide +kernel) ⟨Nat.le_of_ble_eq_true rfl, Nat.le_of_ble_eq_true rfl⟩) (q_rV (w2 := []) hK hN (by rw [List.append_nil]; exact hP) (va_recv hK hP (ci := 4) (q0 := 0) rfl rfl)) rfl rfl hl.1 rfl (lv_room (Nat.le_of_ble_eq_true rfl)) dX1_deep_77 ⟨Nat.le_of_ble_eq_true rfl, Nat.le_of_ble_eq_true rfl⟩) (fun r_h_8 h_8 => ?_)
          rcases h_8 with ⟨rfl, h_8⟩ | ⟨rfl, h_8⟩
          · refine lv_if_ne (tgt := 89) hx hb dX1_deep_80 (by decide) (fun c_9 => ?_) (fun c_9 => absurd c_9 (by decide))
            refine lv_aload_n hx hb dX1_deep_89 rfl (lv_at hl 1 rfl) ?_
            refine lv_iload hx hb dX1_deep_90 (lv_at hl 0 rfl) ?_
            refine lv_iload hx hb dX1_deep_92 (lv_at hl 5 rfl) ?_
            refine vp_callSi (W.runV (As := [.int (S 4 ((t * 10) + i).toNatClampNeg), .int z]) (rest := []) ⟨hx, hb, hml, hown, hts⟩ (c_X1_hasPlace l D kI kJ kL a q S N F B (S 4 ((t * 10) + i).toNatClampNeg) z (xT_in hn h_8)) (cwV 2 hts gX1_deep_X1_hasPlace rfl rfl rfl (by decide +kernel) ⟨Nat.le_of_ble_eq_true rfl, Nat.le_of_ble_eq_true rfl⟩) (q_rV (w2 := []) hK hN (by rw [List.append_nil]; exact hP) (va_recv hK hP (ci := 4) (q0 := 0) rfl rfl)) rfl rfl hl.1 rfl (lv_room (Nat.le_of_ble_eq_true rfl)) dX1_deep_94 ⟨Nat.le_of_ble_eq_true rfl, Nat.le_of_ble_eq_true rfl⟩) (fun r_h_10 h_10 => ?_)
            rcases h_10 with ⟨rfl, h_10⟩ | ⟨rfl, h_10⟩
            · refine lv_if_ne (tgt := 106) hx hb dX1_deep_97 (by decide) (fun c_11 => ?_) (fun c_11 => absurd c_11 (by decide))
              refine lv_aload_n hx hb dX1_deep_106 rfl (lv_at hl 1 rfl) ?_
              refine va_get (D := D) (ci := 4) (v := .ref (a 5)) (C := RX1) (T := TX1) (N := 9) hx hb hts hinX1 hown hK hP 0 rfl rfl 4 (by decide) (hts (.fieldLink RX1 22 "LoanCases" "places" "[I") (by decide +kernel)) (fun _ h9 => h9) rfl dX1_deep_107 ?_
              refine lv_iload hx hb dX1_deep_110 (lv_at hl 0 rfl) ?_
              refine lv_bipush (v := 10) hx hb dX1_deep_112 (by decide) ?_
              refine lv_imul hx hb dX1_deep_114 ?_
              refine lv_iload hx hb dX1_deep_115 (lv_at hl 5 rfl) ?_
              refine lv_iadd hx hb dX1_deep_117 ?_
              refine va_iald (f := S 4) hx hb hK hP 5 0 rfl rfl (pl_in (xT_in hn h_8) h_10.1 h_10.2 (hz10 _ (Nat.lt_of_not_le fun h7 => (xT_in hn h_8) (Or.inr h7)))) dX1_deep_118 ?_
              exact W.iret (v := (S 4 (((S 4 ((t * 10) + i).toNatClampNeg) * 10) + z).toNatClampNeg)) hx hb hr (fun t9 ht hW => ⟨⟨(S 4 (((S 4 ((t * 10) + i).toNatClampNeg) * 10) + z).toNatClampNeg), (S, N), rfl, ⟨by simp only [xs_deep, xs_deep2, cif_t h_1, cif_t c_3, cif_t h_4, cif_t h_6, cif_t h_8, cif_t h_10], by simp only [xs_deep, xs_deep2, cif_t h_1, cif_t c_3, cif_t h_4, cif_t h_6, cif_t h_8, cif_t h_10]⟩, by rw [ht]; exact hP, va_K.moved hW.alike hK, by rw [hAe]; exact hD⟩, hS.F ht⟩) hS.2.2 dX1_deep_119
            · refine lv_if_ne (tgt := 106) hx hb dX1_deep_97 (by decide) (fun c_12 => absurd c_12 (by decide)) (fun c_12 => ?_)
              refine lv_aload_n hx hb dX1_deep_100 rfl (lv_at hl 1 rfl) ?_
              refine lv_iconst (v := 3) hx hb dX1_deep_101 (by decide) ?_
              refine qw_i (w2 := []) (va_runV (As := [.int 3]) (rest := []) ⟨hx, hb, hml, hown, hts⟩ (c_X1_found l D kI kJ kL a q S N F B s.heap.size 3 (by unfold vp_in; decide)) (cwV 1 hts gX1_deep_X1_found rfl rfl rfl (by decide +kernel) ⟨Nat.le_of_ble_eq_true rfl, Nat.le_of_ble_eq_true rfl⟩) (q_wV (w2 := []) hK hN (by rw [List.append_nil]; exact hP) (by rw [List.append_nil]; exact hD) (va_recv hK hP (ci := 4) (q0 := 0) rfl rfl)) rfl rfl hl.1 rfl (lv_room (Nat.le_of_ble_eq_true rfl)) dX1_deep_102 ⟨Nat.le_of_ble_eq_true rfl, Nat.le_of_ble_eq_true rfl⟩) (by rw [List.append_nil]; exact hP) (by rw [List.append_nil]; exact hD) hS hA (fun r_14 u_15 H locs h_13 hP hD hS => ?_)
              rw [List.append_nil] at hP hD
              obtain ⟨rfl, rfl⟩ := h_13
              have hP : va_P D vwCl (xW kI kL a q (xfd S 3) N F B) H := hP
              have hD : va_D A (xW kI kL a q (xfd S 3) N F B) := hD
              exact W.iret (v := (-30 - 3)) hx hb hr (fun t9 ht hW => ⟨⟨(-30 - 3), ((xfd S 3), N), rfl, ⟨by simp only [xs_deep, xs_deep2, cif_t h_1, cif_t c_3, cif_t h_4, cif_t h_6, cif_t h_8, cif_f h_10], by simp only [xs_deep, xs_deep2, cif_t h_1, cif_t c_3, cif_t h_4, cif_t h_6, cif_t h_8, cif_f h_10]⟩, by rw [ht]; exact hP, va_K.moved hW.alike hK, by rw [hAe]; exact hD⟩, hS.F ht⟩) hS.2.2 dX1_deep_105
          · refine lv_if_ne (tgt := 89) hx hb dX1_deep_80 (by decide) (fun c_16 => absurd c_16 (by decide)) (fun c_16 => ?_)
            refine lv_aload_n hx hb dX1_deep_83 rfl (lv_at hl 1 rfl) ?_
            refine lv_iconst (v := 2) hx hb dX1_deep_84 (by decide) ?_
            refine qw_i (w2 := []) (va_runV (As := [.int 2]) (rest := []) ⟨hx, hb, hml, hown, hts⟩ (c_X1_found l D kI kJ kL a q S N F B s.heap.size 2 (by unfold vp_in; decide)) (cwV 1 hts gX1_deep_X1_found rfl rfl rfl (by decide +kernel) ⟨Nat.le_of_ble_eq_true rfl, Nat.le_of_ble_eq_true rfl⟩) (q_wV (w2 := []) hK hN (by rw [List.append_nil]; exact hP) (by rw [List.append_nil]; exact hD) (va_recv hK hP (ci := 4) (q0 := 0) rfl rfl)) rfl rfl hl.1 rfl (lv_room (Nat.le_of_ble_eq_true rfl)) dX1_deep_85 ⟨Nat.le_of_ble_eq_true rfl, Nat.le_of_ble_eq_true rfl⟩) (by rw [List.append_nil]; exact hP) (by rw [List.append_nil]; exact hD) hS hA (fun r_18 u_19 H locs h_17 hP hD hS => ?_)
            rw [List.append_nil] at hP hD
            obtain ⟨rfl, rfl⟩ := h_17
            have hP : va_P D vwCl (xW kI kL a q (xfd S 2) N F B) H := hP
            have hD : va_D A (xW kI kL a q (xfd S 2) N F B) := hD
            exact W.iret (v := (-30 - 2)) hx hb hr (fun t9 ht hW => ⟨⟨(-30 - 2), ((xfd S 2), N), rfl, ⟨by simp only [xs_deep, xs_deep2, cif_t h_1, cif_t c_3, cif_t h_4, cif_t h_6, cif_f h_8], by simp only [xs_deep, xs_deep2, cif_t h_1, cif_t c_3, cif_t h_4, cif_t h_6, cif_f h_8]⟩, by rw [ht]; exact hP, va_K.moved hW.alike hK, by rw [hAe]; exact hD⟩, hS.F ht⟩) hS.2.2 dX1_deep_88
        · refine lv_if_ne (tgt := 61) hx hb dX1_deep_52 (by decide) (fun c_20 => absurd c_20 (by decide)) (fun c_20 => ?_)
          refine lv_aload_n hx hb dX1_deep_55 rfl (lv_at hl 0 rfl) ?_
          refine lv_iconst (v := 3) hx hb dX1_deep_56 (by decide) ?_
          refine qw_i (w2 := []) (va_runV (As := [.int 3]) (rest := []) ⟨hx, hb, hml, hown, hts⟩ (c_X1_found l D kI kJ kL a q S N F B s.heap.size 3 (by unfold vp_in; decide)) (cwV 1 hts gX1_deep_X1_found rfl rfl rfl (by decide +kernel) ⟨Nat.le_of_ble_eq_true rfl, Nat.le_of_ble_eq_true rfl⟩) (q_wV (w2 := []) hK hN (by rw [List.append_nil]; exact hP) (by rw [List.append_nil]; exact hD) (va_recv hK hP (ci := 4) (q0 := 0) rfl rfl)) rfl rfl hl.1 rfl (lv_room (Nat.le_of_ble_eq_true rfl)) dX1_deep_57 ⟨Nat.le_of_ble_eq_true rfl, Nat.le_of_ble_eq_true rfl⟩) (by rw [List.append_nil]; exact hP) (by rw [List.append_nil]; exact hD) hS hA (fun r_22 u_23 H locs h_21 hP hD hS => ?_)
          rw [List.append_nil] at hP hD
          obtain ⟨rfl, rfl⟩ := h_21
          have hP : va_P D vwCl (xW kI kL a q (xfd S 3) N F B) H := hP
          have hD : va_D A (xW kI kL a q (xfd S 3) N F B) := hD
          exact W.iret (v := (-30 - 3)) hx hb hr (fun t9 ht hW => ⟨⟨(-30 - 3), ((xfd S 3), N), rfl, ⟨by simp only [xs_deep, xs_deep2, cif_t h_1, cif_t c_3, cif_t h_4, cif_f h_6], by simp only [xs_deep, xs_deep2, cif_t h_1, cif_t c_3, cif_t h_4, cif_f h_6]⟩, by rw [ht]; exact hP, va_K.moved hW.alike hK, by rw [hAe]; exact hD⟩, hS.F ht⟩) hS.2.2 dX1_deep_60
      · refine lv_if_ne (tgt := 46) hx hb dX1_deep_37 (by decide) (fun c_24 => absurd c_24 (by decide)) (fun c_24 => ?_)
        refine lv_aload_n hx hb dX1_deep_40 rfl (lv_at hl 0 rfl) ?_
        refine lv_iconst (v := 1) hx hb dX1_deep_41 (by decide) ?_
        refine qw_i (w2 := []) (va_runV (As := [.int 1]) (rest := []) ⟨hx, hb, hml, hown, hts⟩ (c_X1_found l D kI kJ kL a q S N F B s.heap.size 1 (by unfold vp_in; decide)) (cwV 1 hts gX1_deep_X1_found rfl rfl rfl (by decide +kernel) ⟨Nat.le_of_ble_eq_true rfl, Nat.le_of_ble_eq_true rfl⟩) (q_wV (w2 := []) hK hN (by rw [List.append_nil]; exact hP) (by rw [List.append_nil]; exact hD) (va_recv hK hP (ci := 4) (q0 := 0) rfl rfl)) rfl rfl hl.1 rfl (lv_room (Nat.le_of_ble_eq_true rfl)) dX1_deep_42 ⟨Nat.le_of_ble_eq_true rfl, Nat.le_of_ble_eq_true rfl⟩) (by rw [List.append_nil]; exact hP) (by rw [List.append_nil]; exact hD) hS hA (fun r_26 u_27 H locs h_25 hP hD hS => ?_)
        rw [List.append_nil] at hP hD
        obtain ⟨rfl, rfl⟩ := h_25
        have hP : va_P D vwCl (xW kI kL a q (xfd S 1) N F B) H := hP
        have hD : va_D A (xW kI kL a q (xfd S 1) N F B) := hD
        exact W.iret (v := (-30 - 1)) hx hb hr (fun t9 ht hW => ⟨⟨(-30 - 1), ((xfd S 1), N), rfl, ⟨by simp only [xs_deep, xs_deep2, cif_t h_1, cif_t c_3, cif_f h_4], by simp only [xs_deep, xs_deep2, cif_t h_1, cif_t c_3, cif_f h_4]⟩, by rw [ht]; exact hP, va_K.moved hW.alike hK, by rw [hAe]; exact hD⟩, hS.F ht⟩) hS.2.2 dX1_deep_45
    · refine lv_iload_n hx hb dX1_deep_16 rfl (lv_at hl 2 rfl) ?_
      refine lv_bipush (v := 15) hx hb dX1_deep_17 (by decide) ?_
      refine lv_icmp_eq (tgt := 31) hx hb dX1_deep_19 (by decide) (fun c_28 => ?_) (fun c_28 => ?_)
      · refine lv_aload_n hx hb dX1_deep_31 rfl (lv_at hl 0 rfl) ?_
        refine lv_iload_n hx hb dX1_deep_32 rfl (lv_at hl 1 rfl) ?_
        refine lv_iload_n hx hb dX1_deep_33 rfl (lv_at hl 2 rfl) ?_
        refine vp_callSi (W.runV (As := [.int t, .int k]) (rest := []) ⟨hx, hb, hml, hown, hts⟩ (c_X1_isOf l D kI kJ kL a q S N F B t k hn) (cwV 2 hts gX1_deep_X1_isOf rfl rfl rfl (by decide +kernel) ⟨Nat.le_of_ble_eq_true rfl, Nat.le_of_ble_eq_true rfl⟩) (q_rV (w2 := []) hK hN (by rw [List.append_nil]; exact hP) (va_recv hK hP (ci := 4) (q0 := 0) rfl rfl)) rfl rfl hl.1 rfl (lv_room (Nat.le_of_ble_eq_true rfl)) dX1_deep_34 ⟨Nat.le_of_ble_eq_true rfl, Nat.le_of_ble_eq_true rfl⟩) (fun r_h_29 h_29 => ?_)
        rcases h_29 with ⟨rfl, h_29⟩ | ⟨rfl, h_29⟩
        · refine lv_if_ne (tgt := 46) hx hb dX1_deep_37 (by decide) (fun c_30 => ?_) (fun c_30 => absurd c_30 (by decide))
          refine lv_aload_n hx hb dX1_deep_46 rfl (lv_at hl 0 rfl) ?_
          refine lv_iload_n hx hb dX1_deep_47 rfl (lv_at hl 1 rfl) ?_
          refine lv_iload_n hx hb dX1_deep_48 rfl (lv_at hl 3 rfl) ?_
          refine vp_callSi (W.runV (As := [.int t, .int i]) (rest := []) ⟨hx, hb, hml, hown, hts⟩ (c_X1_hasPlace l D kI kJ kL a q S N F B t i (xT_in hn h_1)) (cwV 2 hts gX1_deep_X1_hasPlace rfl rfl rfl (by decide +kernel) ⟨Nat.le_of_ble_eq_true rfl, Nat.le_of_ble_eq_true rfl⟩) (q_rV (w2 := []) hK hN (by rw [List.append_nil]; exact hP) (va_recv hK hP (ci := 4) (q0 := 0) rfl rfl)) rfl rfl hl.1 rfl (lv_room (Nat.le_of_ble_eq_true rfl)) dX1_deep_49 ⟨Nat.le_of_ble_eq_true rfl, Nat.le_of_ble_eq_true rfl⟩) (fun r_h_31 h_31 => ?_)
          rcases h_31 with ⟨rfl, h_31⟩ | ⟨rfl, h_31⟩
          · refine lv_if_ne (tgt := 61) hx hb dX1_deep_52 (by decide) (fun c_32 => ?_) (fun c_32 => absurd c_32 (by decide))
            refine lv_aload_n hx hb dX1_deep_61 rfl (lv_at hl 0 rfl) ?_
            refine va_get (D := D) (ci := 4) (v := .ref (a 5)) (C := RX1) (T := TX1) (N := 9) hx hb hts hinX1 hown hK hP 0 rfl rfl 4 (by decide) (hts (.fieldLink RX1 22 "LoanCases" "places" "[I") (by decide +kernel)) (fun _ h9 => h9) rfl dX1_deep_62 ?_
            refine lv_iload_n hx hb dX1_deep_65 rfl (lv_at hl 1 rfl) ?_
            refine lv_bipush (v := 10) hx hb dX1_deep_66 (by decide) ?_
            refine lv_imul hx hb dX1_deep_68 ?_
            refine lv_iload_n hx hb dX1_deep_69 rfl (lv_at hl 3 rfl) ?_
            refine lv_iadd hx hb dX1_deep_70 ?_
            refine va_iald (f := S 4) hx hb hK hP 5 0 rfl rfl (pl_in (xT_in hn h_1) h_31.1 h_31.2 (hz10 _ (Nat.lt_of_not_le fun h7 => (xT_in hn h_1) (Or.inr h7)))) dX1_deep_71 ?_
            refine lv_istore (lv' := [(5, .int (S 4 ((t * 10) + i).toNatClampNeg)), (0, .ref (a 0)), (1, .int t), (2, .int k), (3, .int i), (4, .int z)]) hx hb dX1_deep_72 hl (by decide) rfl (fun ls hl => ?_)
            refine lv_aload_n hx hb dX1_deep_74 rfl (lv_at hl 1 rfl) ?_
            refine lv_iload hx hb dX1_deep_75 (lv_at hl 0 rfl) ?_
            refine vp_callSi (W.runV (As := [.int (S 4 ((t * 10) + i).toNatClampNeg)]) (rest := []) ⟨hx, hb, hml, hown, hts⟩ (c_X1_isThing l D kI kJ kL a q S N F B (S 4 ((t * 10) + i).toNatClampNeg)) (cwV 1 hts gX1_deep_X1_isThing rfl rfl rfl (by decide +kernel) ⟨Nat.le_of_ble_eq_true rfl, Nat.le_of_ble_eq_true rfl⟩) (q_rV (w2 := []) hK hN (by rw [List.append_nil]; exact hP) (va_recv hK hP (ci := 4) (q0 := 0) rfl rfl)) rfl rfl hl.1 rfl (lv_room (Nat.le_of_ble_eq_true rfl)) dX1_deep_77 ⟨Nat.le_of_ble_eq_true rfl, Nat.le_of_ble_eq_true rfl⟩) (fun r_h_33 h_33 => ?_)
            rcases h_33 with ⟨rfl, h_33⟩ | ⟨rfl, h_33⟩
            · refine lv_if_ne (tgt := 89) hx hb dX1_deep_80 (by decide) (fun c_34 => ?_) (fun c_34 => absurd c_34 (by decide))
              refine lv_aload_n hx hb dX1_deep_89 rfl (lv_at hl 1 rfl) ?_
              refine lv_iload hx hb dX1_deep_90 (lv_at hl 0 rfl) ?_
              refine lv_iload hx hb dX1_deep_92 (lv_at hl 5 rfl) ?_
              refine vp_callSi (W.runV (As := [.int (S 4 ((t * 10) + i).toNatClampNeg), .int z]) (rest := []) ⟨hx, hb, hml, hown, hts⟩ (c_X1_hasPlace l D kI kJ kL a q S N F B (S 4 ((t * 10) + i).toNatClampNeg) z (xT_in hn h_33)) (cwV 2 hts gX1_deep_X1_hasPlace rfl rfl rfl (by decide +kernel) ⟨Nat.le_of_ble_eq_true rfl, Nat.le_of_ble_eq_true rfl⟩) (q_rV (w2 := []) hK hN (by rw [List.append_nil]; exact hP) (va_recv hK hP (ci := 4) (q0 := 0) rfl rfl)) rfl rfl hl.1 rfl (lv_room (Nat.le_of_ble_eq_true rfl)) dX1_deep_94 ⟨Nat.le_of_ble_eq_true rfl, Nat.le_of_ble_eq_true rfl⟩) (fun r_h_35 h_35 => ?_)
              rcases h_35 with ⟨rfl, h_35⟩ | ⟨rfl, h_35⟩
              · refine lv_if_ne (tgt := 106) hx hb dX1_deep_97 (by decide) (fun c_36 => ?_) (fun c_36 => absurd c_36 (by decide))
                refine lv_aload_n hx hb dX1_deep_106 rfl (lv_at hl 1 rfl) ?_
                refine va_get (D := D) (ci := 4) (v := .ref (a 5)) (C := RX1) (T := TX1) (N := 9) hx hb hts hinX1 hown hK hP 0 rfl rfl 4 (by decide) (hts (.fieldLink RX1 22 "LoanCases" "places" "[I") (by decide +kernel)) (fun _ h9 => h9) rfl dX1_deep_107 ?_
                refine lv_iload hx hb dX1_deep_110 (lv_at hl 0 rfl) ?_
                refine lv_bipush (v := 10) hx hb dX1_deep_112 (by decide) ?_
                refine lv_imul hx hb dX1_deep_114 ?_
                refine lv_iload hx hb dX1_deep_115 (lv_at hl 5 rfl) ?_
                refine lv_iadd hx hb dX1_deep_117 ?_
                refine va_iald (f := S 4) hx hb hK hP 5 0 rfl rfl (pl_in (xT_in hn h_33) h_35.1 h_35.2 (hz10 _ (Nat.lt_of_not_le fun h7 => (xT_in hn h_33) (Or.inr h7)))) dX1_deep_118 ?_
                exact W.iret (v := (S 4 (((S 4 ((t * 10) + i).toNatClampNeg) * 10) + z).toNatClampNeg)) hx hb hr (fun t9 ht hW => ⟨⟨(S 4 (((S 4 ((t * 10) + i).toNatClampNeg) * 10) + z).toNatClampNeg), (S, N), rfl, ⟨by simp only [xs_deep, xs_deep2, cif_t h_1, cif_f c_3, cif_t c_28, cif_t h_29, cif_t h_31, cif_t h_33, cif_t h_35], by simp only [xs_deep, xs_deep2, cif_t h_1, cif_f c_3, cif_t c_28, cif_t h_29, cif_t h_31, cif_t h_33, cif_t h_35]⟩, by rw [ht]; exact hP, va_K.moved hW.alike hK, by rw [hAe]; exact hD⟩, hS.F ht⟩) hS.2.2 dX1_deep_119
              · refine lv_if_ne (tgt := 106) hx hb dX1_deep_97 (by decide) (fun c_37 => absurd c_37 (by decide)) (fun c_37 => ?_)
                refine lv_aload_n hx hb dX1_deep_100 rfl (lv_at hl 1 rfl) ?_
                refine lv_iconst (v := 3) hx hb dX1_deep_101 (by decide) ?_
                refine qw_i (w2 := []) (va_runV (As := [.int 3]) (rest := []) ⟨hx, hb, hml, hown, hts⟩ (c_X1_found l D kI kJ kL a q S N F B s.heap.size 3 (by unfold vp_in; decide)) (cwV 1 hts gX1_deep_X1_found rfl rfl rfl (by decide +kernel) ⟨Nat.le_of_ble_eq_true rfl, Nat.le_of_ble_eq_true rfl⟩) (q_wV (w2 := []) hK hN (by rw [List.append_nil]; exact hP) (by rw [List.append_nil]; exact hD) (va_recv hK hP (ci := 4) (q0 := 0) rfl rfl)) rfl rfl hl.1 rfl (lv_room (Nat.le_of_ble_eq_true rfl)) dX1_deep_102 ⟨Nat.le_of_ble_eq_true rfl, Nat.le_of_ble_eq_true rfl⟩) (by rw [List.append_nil]; exact hP) (by rw [List.append_nil]; exact hD) hS hA (fun r_39 u_40 H locs h_38 hP hD hS => ?_)
                rw [List.append_nil] at hP hD
                obtain ⟨rfl, rfl⟩ := h_38
                have hP : va_P D vwCl (xW kI kL a q (xfd S 3) N F B) H := hP
                have hD : va_D A (xW kI kL a q (xfd S 3) N F B) := hD
                exact W.iret (v := (-30 - 3)) hx hb hr (fun t9 ht hW => ⟨⟨(-30 - 3), ((xfd S 3), N), rfl, ⟨by simp only [xs_deep, xs_deep2, cif_t h_1, cif_f c_3, cif_t c_28, cif_t h_29, cif_t h_31, cif_t h_33, cif_f h_35], by simp only [xs_deep, xs_deep2, cif_t h_1, cif_f c_3, cif_t c_28, cif_t h_29, cif_t h_31, cif_t h_33, cif_f h_35]⟩, by rw [ht]; exact hP, va_K.moved hW.alike hK, by rw [hAe]; exact hD⟩, hS.F ht⟩) hS.2.2 dX1_deep_105
            · refine lv_if_ne (tgt := 89) hx hb dX1_deep_80 (by decide) (fun c_41 => absurd c_41 (by decide)) (fun c_41 => ?_)
              refine lv_aload_n hx hb dX1_deep_83 rfl (lv_at hl 1 rfl) ?_
              refine lv_iconst (v := 2) hx hb dX1_deep_84 (by decide) ?_
              refine qw_i (w2 := []) (va_runV (As := [.int 2]) (rest := []) ⟨hx, hb, hml, hown, hts⟩ (c_X1_found l D kI kJ kL a q S N F B s.heap.size 2 (by unfold vp_in; decide)) (cwV 1 hts gX1_deep_X1_found rfl rfl rfl (by decide +kernel) ⟨Nat.le_of_ble_eq_true rfl, Nat.le_of_ble_eq_true rfl⟩) (q_wV (w2 := []) hK hN (by rw [List.append_nil]; exact hP) (by rw [List.append_nil]; exact hD) (va_recv hK hP (ci := 4) (q0 := 0) rfl rfl)) rfl rfl hl.1 rfl (lv_room (Nat.le_of_ble_eq_true rfl)) dX1_deep_85 ⟨Nat.le_of_ble_eq_true rfl, Nat.le_of_ble_eq_true rfl⟩) (by rw [List.append_nil]; exact hP) (by rw [List.append_nil]; exact hD) hS hA (fun r_43 u_44 H locs h_42 hP hD hS => ?_)
              rw [List.append_nil] at hP hD
              obtain ⟨rfl, rfl⟩ := h_42
              have hP : va_P D vwCl (xW kI kL a q (xfd S 2) N F B) H := hP
              have hD : va_D A (xW kI kL a q (xfd S 2) N F B) := hD
              exact W.iret (v := (-30 - 2)) hx hb hr (fun t9 ht hW => ⟨⟨(-30 - 2), ((xfd S 2), N), rfl, ⟨by simp only [xs_deep, xs_deep2, cif_t h_1, cif_f c_3, cif_t c_28, cif_t h_29, cif_t h_31, cif_f h_33], by simp only [xs_deep, xs_deep2, cif_t h_1, cif_f c_3, cif_t c_28, cif_t h_29, cif_t h_31, cif_f h_33]⟩, by rw [ht]; exact hP, va_K.moved hW.alike hK, by rw [hAe]; exact hD⟩, hS.F ht⟩) hS.2.2 dX1_deep_88
          · refine lv_if_ne (tgt := 61) hx hb dX1_deep_52 (by decide) (fun c_45 => absurd c_45 (by decide)) (fun c_45 => ?_)
            refine lv_aload_n hx hb dX1_deep_55 rfl (lv_at hl 0 rfl) ?_
            refine lv_iconst (v := 3) hx hb dX1_deep_56 (by decide) ?_
            refine qw_i (w2 := []) (va_runV (As := [.int 3]) (rest := []) ⟨hx, hb, hml, hown, hts⟩ (c_X1_found l D kI kJ kL a q S N F B s.heap.size 3 (by unfold vp_in; decide)) (cwV 1 hts gX1_deep_X1_found rfl rfl rfl (by decide +kernel) ⟨Nat.le_of_ble_eq_true rfl, Nat.le_of_ble_eq_true rfl⟩) (q_wV (w2 := []) hK hN (by rw [List.append_nil]; exact hP) (by rw [List.append_nil]; exact hD) (va_recv hK hP (ci := 4) (q0 := 0) rfl rfl)) rfl rfl hl.1 rfl (lv_room (Nat.le_of_ble_eq_true rfl)) dX1_deep_57 ⟨Nat.le_of_ble_eq_true rfl, Nat.le_of_ble_eq_true rfl⟩) (by rw [List.append_nil]; exact hP) (by rw [List.append_nil]; exact hD) hS hA (fun r_47 u_48 H locs h_46 hP hD hS => ?_)
            rw [List.append_nil] at hP hD
            obtain ⟨rfl, rfl⟩ := h_46
            have hP : va_P D vwCl (xW kI kL a q (xfd S 3) N F B) H := hP
            have hD : va_D A (xW kI kL a q (xfd S 3) N F B) := hD
            exact W.iret (v := (-30 - 3)) hx hb hr (fun t9 ht hW => ⟨⟨(-30 - 3), ((xfd S 3), N), rfl, ⟨by simp only [xs_deep, xs_deep2, cif_t h_1, cif_f c_3, cif_t c_28, cif_t h_29, cif_f h_31], by simp only [xs_deep, xs_deep2, cif_t h_1, cif_f c_3, cif_t c_28, cif_t h_29, cif_f h_31]⟩, by rw [ht]; exact hP, va_K.moved hW.alike hK, by rw [hAe]; exact hD⟩, hS.F ht⟩) hS.2.2 dX1_deep_60
        · refine lv_if_ne (tgt := 46) hx hb dX1_deep_37 (by decide) (fun c_49 => absurd c_49 (by decide)) (fun c_49 => ?_)
          refine lv_aload_n hx hb dX1_deep_40 rfl (lv_at hl 0 rfl) ?_
          refine lv_iconst (v := 1) hx hb dX1_deep_41 (by decide) ?_
          refine qw_i (w2 := []) (va_runV (As := [.int 1]) (rest := []) ⟨hx, hb, hml, hown, hts⟩ (c_X1_found l D kI kJ kL a q S N F B s.heap.size 1 (by unfold vp_in; decide)) (cwV 1 hts gX1_deep_X1_found rfl rfl rfl (by decide +kernel) ⟨Nat.le_of_ble_eq_true rfl, Nat.le_of_ble_eq_true rfl⟩) (q_wV (w2 := []) hK hN (by rw [List.append_nil]; exact hP) (by rw [List.append_nil]; exact hD) (va_recv hK hP (ci := 4) (q0 := 0) rfl rfl)) rfl rfl hl.1 rfl (lv_room (Nat.le_of_ble_eq_true rfl)) dX1_deep_42 ⟨Nat.le_of_ble_eq_true rfl, Nat.le_of_ble_eq_true rfl⟩) (by rw [List.append_nil]; exact hP) (by rw [List.append_nil]; exact hD) hS hA (fun r_51 u_52 H locs h_50 hP hD hS => ?_)
          rw [List.append_nil] at hP hD
          obtain ⟨rfl, rfl⟩ := h_50
          have hP : va_P D vwCl (xW kI kL a q (xfd S 1) N F B) H := hP
          have hD : va_D A (xW kI kL a q (xfd S 1) N F B) := hD
          exact W.iret (v := (-30 - 1)) hx hb hr (fun t9 ht hW => ⟨⟨(-30 - 1), ((xfd S 1), N), rfl, ⟨by simp only [xs_deep, xs_deep2, cif_t h_1, cif_f c_3, cif_t c_28, cif_f h_29], by simp only [xs_deep, xs_deep2, cif_t h_1, cif_f c_3, cif_t c_28, cif_f h_29]⟩, by rw [ht]; exact hP, va_K.moved hW.alike hK, by rw [hAe]; exact hD⟩, hS.F ht⟩) hS.2.2 dX1_deep_45
      · refine lv_iload_n hx hb dX1_deep_22 rfl (lv_at hl 2 rfl) ?_
        refine lv_bipush (v := 16) hx hb dX1_deep_23 (by decide) ?_
        refine lv_icmp_eq (tgt := 31) hx hb dX1_deep_25 (by decide) (fun c_53 => ?_) (fun c_53 => ?_)
        · refine lv_aload_n hx hb dX1_deep_31 rfl (lv_at hl 0 rfl) ?_
          refine lv_iload_n hx hb dX1_deep_32 rfl (lv_at hl 1 rfl) ?_
          refine lv_iload_n hx hb dX1_deep_33 rfl (lv_at hl 2 rfl) ?_
          refine vp_callSi (W.runV (As := [.int t, .int k]) (rest := []) ⟨hx, hb, hml, hown, hts⟩ (c_X1_isOf l D kI kJ kL a q S N F B t k hn) (cwV 2 hts gX1_deep_X1_isOf rfl rfl rfl (by decide +kernel) ⟨Nat.le_of_ble_eq_true rfl, Nat.le_of_ble_eq_true rfl⟩) (q_rV (w2 := []) hK hN (by rw [List.append_nil]; exact hP) (va_recv hK hP (ci := 4) (q0 := 0) rfl rfl)) rfl rfl hl.1 rfl (lv_room (Nat.le_of_ble_eq_true rfl)) dX1_deep_34 ⟨Nat.le_of_ble_eq_true rfl, Nat.le_of_ble_eq_true rfl⟩) (fun r_h_54 h_54 => ?_)
          rcases h_54 with ⟨rfl, h_54⟩ | ⟨rfl, h_54⟩
          · refine lv_if_ne (tgt := 46) hx hb dX1_deep_37 (by decide) (fun c_55 => ?_) (fun c_55 => absurd c_55 (by decide))
            refine lv_aload_n hx hb dX1_deep_46 rfl (lv_at hl 0 rfl) ?_
            refine lv_iload_n hx hb dX1_deep_47 rfl (lv_at hl 1 rfl) ?_
            refine lv_iload_n hx hb dX1_deep_48 rfl (lv_at hl 3 rfl) ?_
            refine vp_callSi (W.runV (As := [.int t, .int i]) (rest := []) ⟨hx, hb, hml, hown, hts⟩ (c_X1_hasPlace l D kI kJ kL a q S N F B t i (xT_in hn h_1)) (cwV 2 hts gX1_deep_X1_hasPlace rfl rfl rfl (by decide +kernel) ⟨Nat.le_of_ble_eq_true rfl, Nat.le_of_ble_eq_true rfl⟩) (q_rV (w2 := []) hK hN (by rw [List.append_nil]; exact hP) (va_recv hK hP (ci := 4) (q0 := 0) rfl rfl)) rfl rfl hl.1 rfl (lv_room (Nat.le_of_ble_eq_true rfl)) dX1_deep_49 ⟨Nat.le_of_ble_eq_true rfl, Nat.le_of_ble_eq_true rfl⟩) (fun r_h_56 h_56 => ?_)
            rcases h_56 with ⟨rfl, h_56⟩ | ⟨rfl, h_56⟩
            · refine lv_if_ne (tgt := 61) hx hb dX1_deep_52 (by decide) (fun c_57 => ?_) (fun c_57 => absurd c_57 (by decide))
              refine lv_aload_n hx hb dX1_deep_61 rfl (lv_at hl 0 rfl) ?_
              refine va_get (D := D) (ci := 4) (v := .ref (a 5)) (C := RX1) (T := TX1) (N := 9) hx hb hts hinX1 hown hK hP 0 rfl rfl 4 (by decide) (hts (.fieldLink RX1 22 "LoanCases" "places" "[I") (by decide +kernel)) (fun _ h9 => h9) rfl dX1_deep_62 ?_
              refine lv_iload_n hx hb dX1_deep_65 rfl (lv_at hl 1 rfl) ?_
              refine lv_bipush (v := 10) hx hb dX1_deep_66 (by decide) ?_
              refine lv_imul hx hb dX1_deep_68 ?_
              refine lv_iload_n hx hb dX1_deep_69 rfl (lv_at hl 3 rfl) ?_
              refine lv_iadd hx hb dX1_deep_70 ?_
              refine va_iald (f := S 4) hx hb hK hP 5 0 rfl rfl (pl_in (xT_in hn h_1) h_56.1 h_56.2 (hz10 _ (Nat.lt_of_not_le fun h7 => (xT_in hn h_1) (Or.inr h7)))) dX1_deep_71 ?_
              refine lv_istore (lv' := [(5, .int (S 4 ((t * 10) + i).toNatClampNeg)), (0, .ref (a 0)), (1, .int t), (2, .int k), (3, .int i), (4, .int z)]) hx hb dX1_deep_72 hl (by decide) rfl (fun ls hl => ?_)
              refine lv_aload_n hx hb dX1_deep_74 rfl (lv_at hl 1 rfl) ?_
              refine lv_iload hx hb dX1_deep_75 (lv_at hl 0 rfl) ?_
              refine vp_callSi (W.runV (As := [.int (S 4 ((t * 10) + i).toNatClampNeg)]) (rest := []) ⟨hx, hb, hml, hown, hts⟩ (c_X1_isThing l D kI kJ kL a q S N F B (S 4 ((t * 10) + i).toNatClampNeg)) (cwV 1 hts gX1_deep_X1_isThing rfl rfl rfl (by decide +kernel) ⟨Nat.le_of_ble_eq_true rfl, Nat.le_of_ble_eq_true rfl⟩) (q_rV (w2 := []) hK hN (by rw [List.append_nil]; exact hP) (va_recv hK hP (ci := 4) (q0 := 0) rfl rfl)) rfl rfl hl.1 rfl (lv_room (Nat.le_of_ble_eq_true rfl)) dX1_deep_77 ⟨Nat.le_of_ble_eq_true rfl, Nat.le_of_ble_eq_true rfl⟩) (fun r_h_58 h_58 => ?_)
              rcases h_58 with ⟨rfl, h_58⟩ | ⟨rfl, h_58⟩
              · refine lv_if_ne (tgt := 89) hx hb dX1_deep_80 (by decide) (fun c_59 => ?_) (fun c_59 => absurd c_59 (by decide))
                refine lv_aload_n hx hb dX1_deep_89 rfl (lv_at hl 1 rfl) ?_
                refine lv_iload hx hb dX1_deep_90 (lv_at hl 0 rfl) ?_
                refine lv_iload hx hb dX1_deep_92 (lv_at hl 5 rfl) ?_
                refine vp_callSi (W.runV (As := [.int (S 4 ((t * 10) + i).toNatClampNeg), .int z]) (rest := []) ⟨hx, hb, hml, hown, hts⟩ (c_X1_hasPlace l D kI kJ kL a q S N F B (S 4 ((t * 10) + i).toNatClampNeg) z (xT_in hn h_58)) (cwV 2 hts gX1_deep_X1_hasPlace rfl rfl rfl (by decide +kernel) ⟨Nat.le_of_ble_eq_true rfl, Nat.le_of_ble_eq_true rfl⟩) (q_rV (w2 := []) hK hN (by rw [List.append_nil]; exact hP) (va_recv hK hP (ci := 4) (q0 := 0) rfl rfl)) rfl rfl hl.1 rfl (lv_room (Nat.le_of_ble_eq_true rfl)) dX1_deep_94 ⟨Nat.le_of_ble_eq_true rfl, Nat.le_of_ble_eq_true rfl⟩) (fun r_h_60 h_60 => ?_)
                rcases h_60 with ⟨rfl, h_60⟩ | ⟨rfl, h_60⟩
                · refine lv_if_ne (tgt := 106) hx hb dX1_deep_97 (by decide) (fun c_61 => ?_) (fun c_61 => absurd c_61 (by decide))
                  refine lv_aload_n hx hb dX1_deep_106 rfl (lv_at hl 1 rfl) ?_
                  refine va_get (D := D) (ci := 4) (v := .ref (a 5)) (C := RX1) (T := TX1) (N := 9) hx hb hts hinX1 hown hK hP 0 rfl rfl 4 (by decide) (hts (.fieldLink RX1 22 "LoanCases" "places" "[I") (by decide +kernel)) (fun _ h9 => h9) rfl dX1_deep_107 ?_
                  refine lv_iload hx hb dX1_deep_110 (lv_at hl 0 rfl) ?_
                  refine lv_bipush (v := 10) hx hb dX1_deep_112 (by decide) ?_
                  refine lv_imul hx hb dX1_deep_114 ?_
                  refine lv_iload hx hb dX1_deep_115 (lv_at hl 5 rfl) ?_
                  refine lv_iadd hx hb dX1_deep_117 ?_
                  refine va_iald (f := S 4) hx hb hK hP 5 0 rfl rfl (pl_in (xT_in hn h_58) h_60.1 h_60.2 (hz10 _ (Nat.lt_of_not_le fun h7 => (xT_in hn h_58) (Or.inr h7)))) dX1_deep_118 ?_
                  exact W.iret (v := (S 4 (((S 4 ((t * 10) + i).toNatClampNeg) * 10) + z).toNatClampNeg)) hx hb hr (fun t9 ht hW => ⟨⟨(S 4 (((S 4 ((t * 10) + i).toNatClampNeg) * 10) + z).toNatClampNeg), (S, N), rfl, ⟨by simp only [xs_deep, xs_deep2, cif_t h_1, cif_f c_3, cif_f c_28, cif_t c_53, cif_t h_54, cif_t h_56, cif_t h_58, cif_t h_60], by simp only [xs_deep, xs_deep2, cif_t h_1, cif_f c_3, cif_f c_28, cif_t c_53, cif_t h_54, cif_t h_56, cif_t h_58, cif_t h_60]⟩, by rw [ht]; exact hP, va_K.moved hW.alike hK, by rw [hAe]; exact hD⟩, hS.F ht⟩) hS.2.2 dX1_deep_119
                · refine lv_if_ne (tgt := 106) hx hb dX1_deep_97 (by decide) (fun c_62 => absurd c_62 (by decide)) (fun c_62 => ?_)
                  refine lv_aload_n hx hb dX1_deep_100 rfl (lv_at hl 1 rfl) ?_
                  refine lv_iconst (v := 3) hx hb dX1_deep_101 (by decide) ?_
                  refine qw_i (w2 := []) (va_runV (As := [.int 3]) (rest := []) ⟨hx, hb, hml, hown, hts⟩ (c_X1_found l D kI kJ kL a q S N F B s.heap.size 3 (by unfold vp_in; decide)) (cwV 1 hts gX1_deep_X1_found rfl rfl rfl (by decide +kernel) ⟨Nat.le_of_ble_eq_true rfl, Nat.le_of_ble_eq_true rfl⟩) (q_wV (w2 := []) hK hN (by rw [List.append_nil]; exact hP) (by rw [List.append_nil]; exact hD) (va_recv hK hP (ci := 4) (q0 := 0) rfl rfl)) rfl rfl hl.1 rfl (lv_room (Nat.le_of_ble_eq_true rfl)) dX1_deep_102 ⟨Nat.le_of_ble_eq_true rfl, Nat.le_of_ble_eq_true rfl⟩) (by rw [List.append_nil]; exact hP) (by rw [List.append_nil]; exact hD) hS hA (fun r_64 u_65 H locs h_63 hP hD hS => ?_)
                  rw [List.append_nil] at hP hD
                  obtain ⟨rfl, rfl⟩ := h_63
                  have hP : va_P D vwCl (xW kI kL a q (xfd S 3) N F B) H := hP
                  have hD : va_D A (xW kI kL a q (xfd S 3) N F B) := hD
                  exact W.iret (v := (-30 - 3)) hx hb hr (fun t9 ht hW => ⟨⟨(-30 - 3), ((xfd S 3), N), rfl, ⟨by simp only [xs_deep, xs_deep2, cif_t h_1, cif_f c_3, cif_f c_28, cif_t c_53, cif_t h_54, cif_t h_56, cif_t h_58, cif_f h_60], by simp only [xs_deep, xs_deep2, cif_t h_1, cif_f c_3, cif_f c_28, cif_t c_53, cif_t h_54, cif_t h_56, cif_t h_58, cif_f h_60]⟩, by rw [ht]; exact hP, va_K.moved hW.alike hK, by rw [hAe]; exact hD⟩, hS.F ht⟩) hS.2.2 dX1_deep_105
              · refine lv_if_ne (tgt := 89) hx hb dX1_deep_80 (by decide) (fun c_66 => absurd c_66 (by decide)) (fun c_66 => ?_)
                refine lv_aload_n hx hb dX1_deep_83 rfl (lv_at hl 1 rfl) ?_
                refine lv_iconst (v := 2) hx hb dX1_deep_84 (by decide) ?_
                refine qw_i (w2 := []) (va_runV (As := [.int 2]) (rest := []) ⟨hx, hb, hml, hown, hts⟩ (c_X1_found l D kI kJ kL a q S N F B s.heap.size 2 (by unfold vp_in; decide)) (cwV 1 hts gX1_deep_X1_found rfl rfl rfl (by decide +kernel) ⟨Nat.le_of_ble_eq_true rfl, Nat.le_of_ble_eq_true rfl⟩) (q_wV (w2 := []) hK hN (by rw [List.append_nil]; exact hP) (by rw [List.append_nil]; exact hD) (va_recv hK hP (ci := 4) (q0 := 0) rfl rfl)) rfl rfl hl.1 rfl (lv_room (Nat.le_of_ble_eq_true rfl)) dX1_deep_85 ⟨Nat.le_of_ble_eq_true rfl, Nat.le_of_ble_eq_true rfl⟩) (by rw [List.append_nil]; exact hP) (by rw [List.append_nil]; exact hD) hS hA (fun r_68 u_69 H locs h_67 hP hD hS => ?_)
                rw [List.append_nil] at hP hD
                obtain ⟨rfl, rfl⟩ := h_67
                have hP : va_P D vwCl (xW kI kL a q (xfd S 2) N F B) H := hP
                have hD : va_D A (xW kI kL a q (xfd S 2) N F B) := hD
                exact W.iret (v := (-30 - 2)) hx hb hr (fun t9 ht hW => ⟨⟨(-30 - 2), ((xfd S 2), N), rfl, ⟨by simp only [xs_deep, xs_deep2, cif_t h_1, cif_f c_3, cif_f c_28, cif_t c_53, cif_t h_54, cif_t h_56, cif_f h_58], by simp only [xs_deep, xs_deep2, cif_t h_1, cif_f c_3, cif_f c_28, cif_t c_53, cif_t h_54, cif_t h_56, cif_f h_58]⟩, by rw [ht]; exact hP, va_K.moved hW.alike hK, by rw [hAe]; exact hD⟩, hS.F ht⟩) hS.2.2 dX1_deep_88
            · refine lv_if_ne (tgt := 61) hx hb dX1_deep_52 (by decide) (fun c_70 => absurd c_70 (by decide)) (fun c_70 => ?_)
              refine lv_aload_n hx hb dX1_deep_55 rfl (lv_at hl 0 rfl) ?_
              refine lv_iconst (v := 3) hx hb dX1_deep_56 (by decide) ?_
              refine qw_i (w2 := []) (va_runV (As := [.int 3]) (rest := []) ⟨hx, hb, hml, hown, hts⟩ (c_X1_found l D kI kJ kL a q S N F B s.heap.size 3 (by unfold vp_in; decide)) (cwV 1 hts gX1_deep_X1_found rfl rfl rfl (by decide +kernel) ⟨Nat.le_of_ble_eq_true rfl, Nat.le_of_ble_eq_true rfl⟩) (q_wV (w2 := []) hK hN (by rw [List.append_nil]; exact hP) (by rw [List.append_nil]; exact hD) (va_recv hK hP (ci := 4) (q0 := 0) rfl rfl)) rfl rfl hl.1 rfl (lv_room (Nat.le_of_ble_eq_true rfl)) dX1_deep_57 ⟨Nat.le_of_ble_eq_true rfl, Nat.le_of_ble_eq_true rfl⟩) (by rw [List.append_nil]; exact hP) (by rw [List.append_nil]; exact hD) hS hA (fun r_72 u_73 H locs h_71 hP hD hS => ?_)
              rw [List.append_nil] at hP hD
              obtain ⟨rfl, rfl⟩ := h_71
              have hP : va_P D vwCl (xW kI kL a q (xfd S 3) N F B) H := hP
              have hD : va_D A (xW kI kL a q (xfd S 3) N F B) := hD
              exact W.iret (v := (-30 - 3)) hx hb hr (fun t9 ht hW => ⟨⟨(-30 - 3), ((xfd S 3), N), rfl, ⟨by simp only [xs_deep, xs_deep2, cif_t h_1, cif_f c_3, cif_f c_28, cif_t c_53, cif_t h_54, cif_f h_56], by simp only [xs_deep, xs_deep2, cif_t h_1, cif_f c_3, cif_f c_28, cif_t c_53, cif_t h_54, cif_f h_56]⟩, by rw [ht]; exact hP, va_K.moved hW.alike hK, by rw [hAe]; exact hD⟩, hS.F ht⟩) hS.2.2 dX1_deep_60
          · refine lv_if_ne (tgt := 46) hx hb dX1_deep_37 (by decide) (fun c_74 => absurd c_74 (by decide)) (fun c_74 => ?_)
            refine lv_aload_n hx hb dX1_deep_40 rfl (lv_at hl 0 rfl) ?_
            refine lv_iconst (v := 1) hx hb dX1_deep_41 (by decide) ?_
            refine qw_i (w2 := []) (va_runV (As := [.int 1]) (rest := []) ⟨hx, hb, hml, hown, hts⟩ (c_X1_found l D kI kJ kL a q S N F B s.heap.size 1 (by unfold vp_in; decide)) (cwV 1 hts gX1_deep_X1_found rfl rfl rfl (by decide +kernel) ⟨Nat.le_of_ble_eq_true rfl, Nat.le_of_ble_eq_true rfl⟩) (q_wV (w2 := []) hK hN (by rw [List.append_nil]; exact hP) (by rw [List.append_nil]; exact hD) (va_recv hK hP (ci := 4) (q0 := 0) rfl rfl)) rfl rfl hl.1 rfl (lv_room (Nat.le_of_ble_eq_true rfl)) dX1_deep_42 ⟨Nat.le_of_ble_eq_true rfl, Nat.le_of_ble_eq_true rfl⟩) (by rw [List.append_nil]; exact hP) (by rw [List.append_nil]; exact hD) hS hA (fun r_76 u_77 H locs h_75 hP hD hS => ?_)
            rw [List.append_nil] at hP hD
            obtain ⟨rfl, rfl⟩ := h_75
            have hP : va_P D vwCl (xW kI kL a q (xfd S 1) N F B) H := hP
            have hD : va_D A (xW kI kL a q (xfd S 1) N F B) := hD
            exact W.iret (v := (-30 - 1)) hx hb hr (fun t9 ht hW => ⟨⟨(-30 - 1), ((xfd S 1), N), rfl, ⟨by simp only [xs_deep, xs_deep2, cif_t h_1, cif_f c_3, cif_f c_28, cif_t c_53, cif_f h_54], by simp only [xs_deep, xs_deep2, cif_t h_1, cif_f c_3, cif_f c_28, cif_t c_53, cif_f h_54]⟩, by rw [ht]; exact hP, va_K.moved hW.alike hK, by rw [hAe]; exact hD⟩, hS.F ht⟩) hS.2.2 dX1_deep_45
        · refine lv_bipush (v := -2) hx hb dX1_deep_28 (by decide) ?_
          exact W.iret (v := (-2)) hx hb hr (fun t9 ht hW => ⟨⟨(-2), (S, N), rfl, ⟨by simp only [xs_deep, xs_deep2, cif_t h_1, cif_f c_3, cif_f c_28, cif_f c_53], by simp only [xs_deep, xs_deep2, cif_t h_1, cif_f c_3, cif_f c_28, cif_f c_53]⟩, by rw [ht]; exact hP, va_K.moved hW.alike hK, by rw [hAe]; exact hD⟩, hS.F ht⟩) hS.2.2 dX1_deep_30
  · refine lv_if_ne (tgt := 10) hx hb dX1_deep_5 (by decide) (fun c_78 => absurd c_78 (by decide)) (fun c_78 => ?_)
    refine lv_iconst (v := -1) hx hb dX1_deep_8 (by decide) ?_
    exact W.iret (v := (-1)) hx hb hr (fun t9 ht hW => ⟨⟨(-1), (S, N), rfl, ⟨by simp only [xs_deep, xs_deep2, cif_f h_1], by simp only [xs_deep, xs_deep2, cif_f h_1]⟩, by rw [ht]; exact hP, va_K.moved hW.alike hK, by rw [hAe]; exact hD⟩, hS.F ht⟩) hS.2.2 dX1_deep_9

set_option maxHeartbeats 4000000 in
set_option maxRecDepth 100000 in
theorem c_X1_fill (l : Launch) (D : va_G) (kI kJ kL : ClassId) (a q : Nat → Nat) (S : Nat → Nat → Int32) (N : Nat → Nat → Nat → Int32) (F : Nat → Option Nat) (B : Nat) (sz : Nat) (b : Int32) (t : Int32) (hn : (S 6 0).toInt ≤ 110) : Met l yX1_fill wsX1_fill ({ frames := 3, cells := 0, slots := 0, locals := 66 }) (q_wP D (xTY kI kJ kL) (xW kI kL a q S N F B) sz [.ref (a 0), .int b, .int t]) (va_Qi (fun r (u : (Nat → Nat → Int32) × (Nat → Nat → Nat → Int32)) => r = (xs_fill S b t).1 ∧ u = ((xs_fill S b t).2, N)) (q_wB D (xTY kI kJ kL) (xW kI kL a q S N F B) sz (fun u : (Nat → Nat → Int32) × (Nat → Nat → Nat → Int32) => xW kI kL a q u.1 u.2 F B)) (va_A (xW kI kL a q S N F B) sz)) 0 0 (va_A (xW kI kL a q S N F B) sz) := by
  refine Met.ofW (cc := cX1_fill) (maxL := 4) (ret := (some .int)) (by decide) rfl ?_
  intro p e s m args below meth c s₁ Bd hml hv
  obtain ⟨rfl, hsz, hP, hK, hD0, hN⟩ := hv
  have hx := Bd.exec
  have hb := Bd.bytes
  have hr := Bd.returns
  have hts := atoms_spec (ws := wsX1_fill) Bd.pre
  have hown : s.vm.findClass RX1 = some m.cls := findClass_of_methodNamed Bd.named
  have hlocks := Bd.notSynchronized
  subst hsz
  have hD := hD0.self (sz := s.heap.size)
  generalize hAe : va_A (xW kI kL a q S N F B) s.heap.size = A at hD ⊢
  have hA : ∀ q : Nat, s.heap.size ≤ q → A q := fun q h => by rw [← hAe]; exact Or.inr h
  have hS : va_S A s.heap s.heap [] := va_S.rf
  have hl := lv_entry ([.ref (a 0), .int b, .int t]) (n := 4) (Nat.le_of_ble_eq_true rfl)
  rw [lg_entry_eq]
  generalize (lg_sl ([.ref (a 0), .int b, .int t]) ++ List.replicate (4 - (lg_sl ([.ref (a 0), .int b, .int t])).length) Slot.unset).toArray = ls at hl ⊢
  have hl : lv_has ls 4 [(0, .ref (a 0)), (1, .int b), (2, .int t)] := hl
  have hinX1 : ∀ w ∈ u_ws RX1 TX1 9, w ∈ wsX1_fill := by decide +kernel
  refine lv_aload_n hx hb dX1_fill_0 rfl (lv_at hl 0 rfl) ?_
  refine lv_iload_n hx hb dX1_fill_1 rfl (lv_at hl 1 rfl) ?_
  refine vp_callSi (W.runV (As := [.int b]) (rest := []) ⟨hx, hb, hml, hown, hts⟩ (c_X1_isCase l D kI kJ kL a q S N F B b hn) (cwV 1 hts gX1_fill_X1_isCase rfl rfl rfl (by decide +kernel) ⟨Nat.le_of_ble_eq_true rfl, Nat.le_of_ble_eq_true rfl⟩) (q_rV (w2 := []) hK hN (by rw [List.append_nil]; exact hP) (va_recv hK hP (ci := 4) (q0 := 0) rfl rfl)) rfl rfl hl.1 rfl (lv_room (Nat.le_of_ble_eq_true rfl)) dX1_fill_2 ⟨Nat.le_of_ble_eq_true rfl, Nat.le_of_ble_eq_true rfl⟩) (fun r_h_1 h_1 => ?_)
  rcases h_1 with ⟨rfl, h_1⟩ | ⟨rfl, h_1⟩
  · refine lv_if_eq (tgt := 16) hx hb dX1_fill_5 (by decide) (fun c_2 => absurd c_2 (by decide)) (fun c_2 => ?_)
    refine lv_aload_n hx hb dX1_fill_8 rfl (lv_at hl 0 rfl) ?_
    refine lv_iload_n hx hb dX1_fill_9 rfl (lv_at hl 2 rfl) ?_
    refine vp_callSi (W.runV (As := [.int t]) (rest := []) ⟨hx, hb, hml, hown, hts⟩ (c_X1_isThingOrNone l D kI kJ kL a q S N F B t) (cwV 1 hts gX1_fill_X1_isThingOrNone rfl rfl rfl (by decide +kernel) ⟨Nat.le_of_ble_eq_true rfl, Nat.le_of_ble_eq_true rfl⟩) (q_rV (w2 := []) hK hN (by rw [List.append_nil]; exact hP) (va_recv hK hP (ci := 4) (q0 := 0) rfl rfl)) rfl rfl hl.1 rfl (lv_room (Nat.le_of_ble_eq_true rfl)) dX1_fill_10 ⟨Nat.le_of_ble_eq_true rfl, Nat.le_of_ble_eq_true rfl⟩) (fun r_h_3 h_3 => ?_)
    rcases h_3 with ⟨rfl, h_3⟩ | ⟨rfl, h_3⟩
    · refine lv_if_ne (tgt := 18) hx hb dX1_fill_13 (by decide) (fun c_4 => ?_) (fun c_4 => absurd c_4 (by decide))
      refine lv_aload_n hx hb dX1_fill_18 rfl (lv_at hl 0 rfl) ?_
      refine lv_iload_n hx hb dX1_fill_19 rfl (lv_at hl 2 rfl) ?_
      refine lv_iload_n hx hb dX1_fill_20 rfl (lv_at hl 1 rfl) ?_
      refine vp_callSi (W.runV (As := [.int t, .int b]) (rest := []) ⟨hx, hb, hml, hown, hts⟩ (c_X1_leadsTo l D kI kJ kL a q S N F B t b hn) (cwV 2 hts gX1_fill_X1_leadsTo rfl rfl rfl (by decide +kernel) ⟨Nat.le_of_ble_eq_true rfl, Nat.le_of_ble_eq_true rfl⟩) (q_rV (w2 := []) hK hN (by rw [List.append_nil]; exact hP) (va_recv hK hP (ci := 4) (q0 := 0) rfl rfl)) rfl rfl hl.1 rfl (lv_room (Nat.le_of_ble_eq_true rfl)) dX1_fill_21 ⟨Nat.le_of_ble_eq_true rfl, Nat.le_of_ble_eq_true rfl⟩) (fun r_h_5 h_5 => ?_)
      rcases h_5 with ⟨rfl, h_5⟩ | ⟨rfl, h_5⟩
      · refine lv_if_eq (tgt := 30) hx hb dX1_fill_24 (by decide) (fun c_6 => absurd c_6 (by decide)) (fun c_6 => ?_)
        refine lv_bipush (v := -3) hx hb dX1_fill_27 (by decide) ?_
        exact W.iret (v := (-3)) hx hb hr (fun t9 ht hW => ⟨⟨(-3), (S, N), rfl, ⟨by simp only [xs_fill, cif_t h_1, cif_t h_3, cif_t h_5], by simp only [xs_fill, cif_t h_1, cif_t h_3, cif_t h_5]⟩, by rw [ht]; exact hP, va_K.moved hW.alike hK, by rw [hAe]; exact hD⟩, hS.F ht⟩) hS.2.2 dX1_fill_29
      · refine lv_if_eq (tgt := 30) hx hb dX1_fill_24 (by decide) (fun c_7 => ?_) (fun c_7 => absurd c_7 (by decide))
        refine lv_aload_n hx hb dX1_fill_30 rfl (lv_at hl 0 rfl) ?_
        refine va_get (D := D) (ci := 4) (v := .ref (a 4)) (C := RX1) (T := TX1) (N := 9) hx hb hts hinX1 hown hK hP 0 rfl rfl 3 (by decide) (hts (.fieldLink RX1 19 "LoanCases" "holds" "[I") (by decide +kernel)) (fun _ h9 => h9) rfl dX1_fill_31 ?_
        refine lv_iload_n hx hb dX1_fill_34 rfl (lv_at hl 1 rfl) ?_
        refine va_iald (f := S 3) hx hb hK hP 4 0 rfl rfl (xT_in hn h_1.1) dX1_fill_35 ?_
        refine lv_istore_n (lv' := [(3, .int (S 3 b.toNatClampNeg)), (0, .ref (a 0)), (1, .int b), (2, .int t)]) hx hb dX1_fill_36 rfl hl (by decide) rfl (fun ls hl => ?_)
        refine lv_aload_n hx hb dX1_fill_37 rfl (lv_at hl 1 rfl) ?_
        refine va_get (D := D) (ci := 4) (v := .ref (a 4)) (C := RX1) (T := TX1) (N := 9) hx hb hts hinX1 hown hK hP 0 rfl rfl 3 (by decide) (hts (.fieldLink RX1 19 "LoanCases" "holds" "[I") (by decide +kernel)) (fun _ h9 => h9) rfl dX1_fill_38 ?_
        refine lv_iload_n hx hb dX1_fill_41 rfl (lv_at hl 2 rfl) ?_
        refine lv_iload_n hx hb dX1_fill_42 rfl (lv_at hl 3 rfl) ?_
        refine va_iast hx hb hK hP hD hS 4 0 rfl rfl (xT_in hn h_1.1) dX1_fill_43 (fun H locs hP hD hS => ?_)
        have hP : va_P D vwCl (xW kI kL a q (sU S 3 b.toNatClampNeg t) N F B) H := hP
        have hD : va_D A (xW kI kL a q (sU S 3 b.toNatClampNeg t) N F B) := hD
        refine lv_iload_n hx hb dX1_fill_44 rfl (lv_at hl 0 rfl) ?_
        exact W.iret (v := (S 3 b.toNatClampNeg)) hx hb hr (fun t9 ht hW => ⟨⟨(S 3 b.toNatClampNeg), ((sU S 3 b.toNatClampNeg t), N), rfl, ⟨by simp only [xs_fill, cif_t h_1, cif_t h_3, cif_f h_5], by simp only [xs_fill, cif_t h_1, cif_t h_3, cif_f h_5]⟩, by rw [ht]; exact hP, va_K.moved hW.alike hK, by rw [hAe]; exact hD⟩, hS.F ht⟩) hS.2.2 dX1_fill_45
    · refine lv_if_ne (tgt := 18) hx hb dX1_fill_13 (by decide) (fun c_8 => absurd c_8 (by decide)) (fun c_8 => ?_)
      refine lv_iconst (v := -1) hx hb dX1_fill_16 (by decide) ?_
      exact W.iret (v := (-1)) hx hb hr (fun t9 ht hW => ⟨⟨(-1), (S, N), rfl, ⟨by simp only [xs_fill, cif_t h_1, cif_f h_3], by simp only [xs_fill, cif_t h_1, cif_f h_3]⟩, by rw [ht]; exact hP, va_K.moved hW.alike hK, by rw [hAe]; exact hD⟩, hS.F ht⟩) hS.2.2 dX1_fill_17
  · refine lv_if_eq (tgt := 16) hx hb dX1_fill_5 (by decide) (fun c_9 => ?_) (fun c_9 => absurd c_9 (by decide))
    refine lv_iconst (v := -1) hx hb dX1_fill_16 (by decide) ?_
    exact W.iret (v := (-1)) hx hb hr (fun t9 ht hW => ⟨⟨(-1), (S, N), rfl, ⟨by simp only [xs_fill, cif_f h_1], by simp only [xs_fill, cif_f h_1]⟩, by rw [ht]; exact hP, va_K.moved hW.alike hK, by rw [hAe]; exact hD⟩, hS.F ht⟩) hS.2.2 dX1_fill_17

set_option maxHeartbeats 4000000 in
set_option maxRecDepth 100000 in
theorem c_X1_inside (l : Launch) (D : va_G) (kI kJ kL : ClassId) (a q : Nat → Nat) (S : Nat → Nat → Int32) (N : Nat → Nat → Nat → Int32) (F : Nat → Option Nat) (B : Nat) (sz : Nat) (b : Int32) (hn : (S 6 0).toInt ≤ 110) : Met l yX1_inside wsX1_inside ({ frames := 3, cells := 0, slots := 0, locals := 65 }) (q_wP D (xTY kI kJ kL) (xW kI kL a q S N F B) sz [.ref (a 0), .int b]) (va_Qi (fun r (u : (Nat → Nat → Int32) × (Nat → Nat → Nat → Int32)) => r = (xs_inside S b).1 ∧ u = ((xs_inside S b).2, N)) (q_wB D (xTY kI kJ kL) (xW kI kL a q S N F B) sz (fun u : (Nat → Nat → Int32) × (Nat → Nat → Nat → Int32) => xW kI kL a q u.1 u.2 F B)) (va_A (xW kI kL a q S N F B) sz)) 0 0 (va_A (xW kI kL a q S N F B) sz) := by
  refine Met.ofW (cc := cX1_inside) (maxL := 3) (ret := (some .int)) (by decide) rfl ?_
  intro p e s m args below meth c s₁ Bd hml hv
  obtain ⟨rfl, hsz, hP, hK, hD0, hN⟩ := hv
  have hx := Bd.exec
  have hb := Bd.bytes
  have hr := Bd.returns
  have hts := atoms_spec (ws := wsX1_inside) Bd.pre
  have hown : s.vm.findClass RX1 = some m.cls := findClass_of_methodNamed Bd.named
  have hlocks := Bd.notSynchronized
  subst hsz
  have hD := hD0.self (sz := s.heap.size)
  generalize hAe : va_A (xW kI kL a q S N F B) s.heap.size = A at hD ⊢
  have hA : ∀ q : Nat, s.heap.size ≤ q → A q := fun q h => by rw [← hAe]; exact Or.inr h
  have hS : va_S A s.heap s.heap [] := va_S.rf
  have hl := lv_entry ([.ref (a 0), .int b]) (n := 3) (Nat.le_of_ble_eq_true rfl)
  rw [lg_entry_eq]
  generalize (lg_sl ([.ref (a 0), .int b]) ++ List.replicate (3 - (lg_sl ([.ref (a 0), .int b])).length) Slot.unset).toArray = ls at hl ⊢
  have hl : lv_has ls 3 [(0, .ref (a 0)), (1, .int b)] := hl
  have hinX1 : ∀ w ∈ u_ws RX1 TX1 9, w ∈ wsX1_inside := by decide +kernel
  refine lv_aload_n hx hb dX1_inside_0 rfl (lv_at hl 0 rfl) ?_
  refine lv_iload_n hx hb dX1_inside_1 rfl (lv_at hl 1 rfl) ?_
  refine vp_callSi (W.runV (As := [.int b]) (rest := []) ⟨hx, hb, hml, hown, hts⟩ (c_X1_isCase l D kI kJ kL a q S N F B b hn) (cwV 1 hts gX1_inside_X1_isCase rfl rfl rfl (by decide +kernel) ⟨Nat.le_of_ble_eq_true rfl, Nat.le_of_ble_eq_true rfl⟩) (q_rV (w2 := []) hK hN (by rw [List.append_nil]; exact hP) (va_recv hK hP (ci := 4) (q0 := 0) rfl rfl)) rfl rfl hl.1 rfl (lv_room (Nat.le_of_ble_eq_true rfl)) dX1_inside_2 ⟨Nat.le_of_ble_eq_true rfl, Nat.le_of_ble_eq_true rfl⟩) (fun r_h_1 h_1 => ?_)
  rcases h_1 with ⟨rfl, h_1⟩ | ⟨rfl, h_1⟩
  · refine lv_if_ne (tgt := 10) hx hb dX1_inside_5 (by decide) (fun c_2 => ?_) (fun c_2 => absurd c_2 (by decide))
    refine lv_aload_n hx hb dX1_inside_10 rfl (lv_at hl 0 rfl) ?_
    refine lv_iload_n hx hb dX1_inside_11 rfl (lv_at hl 1 rfl) ?_
    refine vp_callSi (W.runV (As := [.int b]) (rest := []) ⟨hx, hb, hml, hown, hts⟩ (c_X1_innermostOf l D kI kJ kL a q S N F B b hn (xT_in hn h_1.1)) (cwV 1 hts gX1_inside_X1_innermostOf rfl rfl rfl (by decide +kernel) ⟨Nat.le_of_ble_eq_true rfl, Nat.le_of_ble_eq_true rfl⟩) (q_rV (w2 := []) hK hN (by rw [List.append_nil]; exact hP) (va_recv hK hP (ci := 4) (q0 := 0) rfl rfl)) rfl rfl hl.1 rfl (lv_room (Nat.le_of_ble_eq_true rfl)) dX1_inside_12 ⟨Nat.le_of_ble_eq_true rfl, Nat.le_of_ble_eq_true rfl⟩) (fun r_4 h_3 => ?_)
    subst h_3
    refine lv_istore_n (lv' := [(2, .int (xin S 110 (S 3 b.toNatClampNeg))), (0, .ref (a 0)), (1, .int b)]) hx hb dX1_inside_15 rfl hl (by decide) rfl (fun ls hl => ?_)
    refine lv_aload_n hx hb dX1_inside_16 rfl (lv_at hl 1 rfl) ?_
    refine lv_iload_n hx hb dX1_inside_17 rfl (lv_at hl 0 rfl) ?_
    refine vp_callSi (W.runV (As := [.int (xin S 110 (S 3 b.toNatClampNeg))]) (rest := []) ⟨hx, hb, hml, hown, hts⟩ (c_X1_isThing l D kI kJ kL a q S N F B (xin S 110 (S 3 b.toNatClampNeg))) (cwV 1 hts gX1_inside_X1_isThing rfl rfl rfl (by decide +kernel) ⟨Nat.le_of_ble_eq_true rfl, Nat.le_of_ble_eq_true rfl⟩) (q_rV (w2 := []) hK hN (by rw [List.append_nil]; exact hP) (va_recv hK hP (ci := 4) (q0 := 0) rfl rfl)) rfl rfl hl.1 rfl (lv_room (Nat.le_of_ble_eq_true rfl)) dX1_inside_18 ⟨Nat.le_of_ble_eq_true rfl, Nat.le_of_ble_eq_true rfl⟩) (fun r_h_5 h_5 => ?_)
    rcases h_5 with ⟨rfl, h_5⟩ | ⟨rfl, h_5⟩
    · refine lv_if_ne (tgt := 30) hx hb dX1_inside_21 (by decide) (fun c_6 => ?_) (fun c_6 => absurd c_6 (by decide))
      refine lv_aload_n hx hb dX1_inside_30 rfl (lv_at hl 1 rfl) ?_
      refine lv_iload_n hx hb dX1_inside_31 rfl (lv_at hl 0 rfl) ?_
      refine lv_iconst (v := 0) hx hb dX1_inside_32 (by decide) ?_
      refine vp_callSi (W.runV (As := [.int (xin S 110 (S 3 b.toNatClampNeg)), .int 0]) (rest := []) ⟨hx, hb, hml, hown, hts⟩ (c_X1_isOf l D kI kJ kL a q S N F B (xin S 110 (S 3 b.toNatClampNeg)) 0 hn) (cwV 2 hts gX1_inside_X1_isOf rfl rfl rfl (by decide +kernel) ⟨Nat.le_of_ble_eq_true rfl, Nat.le_of_ble_eq_true rfl⟩) (q_rV (w2 := []) hK hN (by rw [List.append_nil]; exact hP) (va_recv hK hP (ci := 4) (q0 := 0) rfl rfl)) rfl rfl hl.1 rfl (lv_room (Nat.le_of_ble_eq_true rfl)) dX1_inside_33 ⟨Nat.le_of_ble_eq_true rfl, Nat.le_of_ble_eq_true rfl⟩) (fun r_h_7 h_7 => ?_)
      rcases h_7 with ⟨rfl, h_7⟩ | ⟨rfl, h_7⟩
      · refine lv_if_ne (tgt := 45) hx hb dX1_inside_36 (by decide) (fun c_8 => ?_) (fun c_8 => absurd c_8 (by decide))
        refine lv_aload_n hx hb dX1_inside_45 rfl (lv_at hl 1 rfl) ?_
        refine va_get (D := D) (ci := 4) (v := .ref (a 1)) (C := RX1) (T := TX1) (N := 9) hx hb hts hinX1 hown hK hP 0 rfl rfl 0 (by decide) (hts (.fieldLink RX1 9 "LoanCases" "forms" "[I") (by decide +kernel)) (fun _ h9 => h9) rfl dX1_inside_46 ?_
        refine lv_iload_n hx hb dX1_inside_49 rfl (lv_at hl 0 rfl) ?_
        refine va_iald (f := S 0) hx hb hK hP 1 0 rfl rfl (xT_in hn h_5) dX1_inside_50 ?_
        refine lv_aload_n hx hb dX1_inside_51 rfl (lv_at hl 1 rfl) ?_
        refine va_get (D := D) (ci := 4) (v := .ref (a 2)) (C := RX1) (T := TX1) (N := 9) hx hb hts hinX1 hown hK hP 0 rfl rfl 1 (by decide) (hts (.fieldLink RX1 13 "LoanCases" "years" "[I") (by decide +kernel)) (fun _ h9 => h9) rfl dX1_inside_52 ?_
        refine lv_iload_n hx hb dX1_inside_55 rfl (lv_at hl 0 rfl) ?_
        refine va_iald (f := S 1) hx hb hK hP 2 0 rfl rfl (xT_in hn h_5) dX1_inside_56 ?_
        refine vp_callSi (W.runS (As := [.int (S 0 (xin S 110 (S 3 b.toNatClampNeg)).toNatClampNeg), .int (S 1 (xin S 110 (S 3 b.toNatClampNeg)).toNatClampNeg)]) (rest := []) ⟨hx, hb, hml, hown, hts⟩ (c_X1_worthOf l D kI kJ kL (S 0 (xin S 110 (S 3 b.toNatClampNeg)).toNatClampNeg) (S 1 (xin S 110 (S 3 b.toNatClampNeg)).toNatClampNeg)) (va_cwS 2 hts gX1_inside_X1_worthOf rfl rfl rfl (by decide +kernel) ⟨Nat.le_of_ble_eq_true rfl, Nat.le_of_ble_eq_true rfl⟩) (q_rS0 hK hN) rfl rfl hl.1 rfl (lv_room (Nat.le_of_ble_eq_true rfl)) dX1_inside_57 ⟨Nat.le_of_ble_eq_true rfl, Nat.le_of_ble_eq_true rfl⟩) (fun r_10 h_9 => ?_)
        subst h_9
        exact W.iret (v := (xwo (S 0 (xin S 110 (S 3 b.toNatClampNeg)).toNatClampNeg) (S 1 (xin S 110 (S 3 b.toNatClampNeg)).toNatClampNeg))) hx hb hr (fun t9 ht hW => ⟨⟨(xwo (S 0 (xin S 110 (S 3 b.toNatClampNeg)).toNatClampNeg) (S 1 (xin S 110 (S 3 b.toNatClampNeg)).toNatClampNeg)), (S, N), rfl, ⟨by simp only [xs_inside, cif_t h_1, cif_t h_5, cif_t h_7], by simp only [xs_inside, cif_t h_1, cif_t h_5, cif_t h_7]⟩, by rw [ht]; exact hP, va_K.moved hW.alike hK, by rw [hAe]; exact hD⟩, hS.F ht⟩) hS.2.2 dX1_inside_60
      · refine lv_if_ne (tgt := 45) hx hb dX1_inside_36 (by decide) (fun c_11 => absurd c_11 (by decide)) (fun c_11 => ?_)
        refine lv_aload_n hx hb dX1_inside_39 rfl (lv_at hl 1 rfl) ?_
        refine lv_iconst (v := 1) hx hb dX1_inside_40 (by decide) ?_
        refine qw_i (w2 := []) (va_runV (As := [.int 1]) (rest := []) ⟨hx, hb, hml, hown, hts⟩ (c_X1_found l D kI kJ kL a q S N F B s.heap.size 1 (by unfold vp_in; decide)) (cwV 1 hts gX1_inside_X1_found rfl rfl rfl (by decide +kernel) ⟨Nat.le_of_ble_eq_true rfl, Nat.le_of_ble_eq_true rfl⟩) (q_wV (w2 := []) hK hN (by rw [List.append_nil]; exact hP) (by rw [List.append_nil]; exact hD) (va_recv hK hP (ci := 4) (q0 := 0) rfl rfl)) rfl rfl hl.1 rfl (lv_room (Nat.le_of_ble_eq_true rfl)) dX1_inside_41 ⟨Nat.le_of_ble_eq_true rfl, Nat.le_of_ble_eq_true rfl⟩) (by rw [List.append_nil]; exact hP) (by rw [List.append_nil]; exact hD) hS hA (fun r_13 u_14 H locs h_12 hP hD hS => ?_)
        rw [List.append_nil] at hP hD
        obtain ⟨rfl, rfl⟩ := h_12
        have hP : va_P D vwCl (xW kI kL a q (xfd S 1) N F B) H := hP
        have hD : va_D A (xW kI kL a q (xfd S 1) N F B) := hD
        exact W.iret (v := (-30 - 1)) hx hb hr (fun t9 ht hW => ⟨⟨(-30 - 1), ((xfd S 1), N), rfl, ⟨by simp only [xs_inside, cif_t h_1, cif_t h_5, cif_f h_7], by simp only [xs_inside, cif_t h_1, cif_t h_5, cif_f h_7]⟩, by rw [ht]; exact hP, va_K.moved hW.alike hK, by rw [hAe]; exact hD⟩, hS.F ht⟩) hS.2.2 dX1_inside_44
    · refine lv_if_ne (tgt := 30) hx hb dX1_inside_21 (by decide) (fun c_15 => absurd c_15 (by decide)) (fun c_15 => ?_)
      refine lv_aload_n hx hb dX1_inside_24 rfl (lv_at hl 1 rfl) ?_
      refine lv_iconst (v := 2) hx hb dX1_inside_25 (by decide) ?_
      refine qw_i (w2 := []) (va_runV (As := [.int 2]) (rest := []) ⟨hx, hb, hml, hown, hts⟩ (c_X1_found l D kI kJ kL a q S N F B s.heap.size 2 (by unfold vp_in; decide)) (cwV 1 hts gX1_inside_X1_found rfl rfl rfl (by decide +kernel) ⟨Nat.le_of_ble_eq_true rfl, Nat.le_of_ble_eq_true rfl⟩) (q_wV (w2 := []) hK hN (by rw [List.append_nil]; exact hP) (by rw [List.append_nil]; exact hD) (va_recv hK hP (ci := 4) (q0 := 0) rfl rfl)) rfl rfl hl.1 rfl (lv_room (Nat.le_of_ble_eq_true rfl)) dX1_inside_26 ⟨Nat.le_of_ble_eq_true rfl, Nat.le_of_ble_eq_true rfl⟩) (by rw [List.append_nil]; exact hP) (by rw [List.append_nil]; exact hD) hS hA (fun r_17 u_18 H locs h_16 hP hD hS => ?_)
      rw [List.append_nil] at hP hD
      obtain ⟨rfl, rfl⟩ := h_16
      have hP : va_P D vwCl (xW kI kL a q (xfd S 2) N F B) H := hP
      have hD : va_D A (xW kI kL a q (xfd S 2) N F B) := hD
      exact W.iret (v := (-30 - 2)) hx hb hr (fun t9 ht hW => ⟨⟨(-30 - 2), ((xfd S 2), N), rfl, ⟨by simp only [xs_inside, cif_t h_1, cif_f h_5], by simp only [xs_inside, cif_t h_1, cif_f h_5]⟩, by rw [ht]; exact hP, va_K.moved hW.alike hK, by rw [hAe]; exact hD⟩, hS.F ht⟩) hS.2.2 dX1_inside_29
  · refine lv_if_ne (tgt := 10) hx hb dX1_inside_5 (by decide) (fun c_19 => absurd c_19 (by decide)) (fun c_19 => ?_)
    refine lv_iconst (v := -1) hx hb dX1_inside_8 (by decide) ?_
    exact W.iret (v := (-1)) hx hb hr (fun t9 ht hW => ⟨⟨(-1), (S, N), rfl, ⟨by simp only [xs_inside, cif_f h_1], by simp only [xs_inside, cif_f h_1]⟩, by rw [ht]; exact hP, va_K.moved hW.alike hK, by rw [hAe]; exact hD⟩, hS.F ht⟩) hS.2.2 dX1_inside_9
