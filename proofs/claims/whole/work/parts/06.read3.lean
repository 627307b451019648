
noncomputable def xs_is (S : Nat → Nat → Int32) (t k : Int32) : Int32 := cif (xT S t) (cif (btw k 0 20) (cif (xOf S t k) 1 0) (-2)) (-1)
noncomputable def xs_kinds (S : Nat → Nat → Int32) (t : Int32) : Int32 := cif (xT S t) (xkn S t 20) (-1)
noncomputable def xs_held (S : Nat → Nat → Int32) (b : Int32) : Int32 := cif (xK S b) (S 3 b.toNatClampNeg) (-1)
noncomputable def xs_innermost (S : Nat → Nat → Int32) (b k : Int32) : Int32 := cif (xK S b) (cif (btw k 0 20) (cif (xOf S (xin S 110 (S 3 b.toNatClampNeg)) k) 1 0) (-2)) (-1)
noncomputable def xs_depth (S : Nat → Nat → Int32) (b : Int32) : Int32 := cif (xK S b) (xdp S 109 (S 3 b.toNatClampNeg) 1) (-1)
noncomputable def xs_told (S : Nat → Nat → Int32) (N : Nat → Nat → Nat → Int32) (j w : Int32) : Int32 := cif (xLn S j) (if w = 0 then N j.toNatClampNeg 0 0 else if w = 1 then N j.toNatClampNeg 1 0 else if w = 2 then xld N j.toNatClampNeg 8 else if w = 3 then N j.toNatClampNeg 2 0 else -2) (-1)
noncomputable def xs_van (S : Nat → Nat → Int32) (N : Nat → Nat → Nat → Int32) (j i : Int32) : Int32 := cif (xLn S j) (cif (btw i 0 7) (N j.toNatClampNeg 5 i.toNatClampNeg) (-5)) (-1)
noncomputable def xs_count (S : Nat → Nat → Int32) (n : Nat) (w : Int32) : Int32 := if w = 0 then S 6 0 else if w = 1 then xcc S 0 n else if w = 2 then xcc S 1 n else if w = 3 then S 7 0 else cif (btw w 4 8) (S 5 (w - 3).toNatClampNeg) (-2)
def xfd (S : Nat → Nat → Int32) (f : Int32) : Nat → Nat → Int32 := sU S 5 f.toNatClampNeg (S 5 f.toNatClampNeg + 1)
def xfl (S : Nat → Nat → Int32) (n e : Int32) : Nat → (Nat → Nat → Int32)
  | 0 => S
  | k + 1 => sU (xfl S n e k) 4 ((n * 10) + nI k).toNatClampNeg e
noncomputable def xad (S : Nat → Nat → Int32) (f y z : Int32) : Nat → Nat → Int32 := sU (xfl (sU (sU (sU (sU S 0 (S 6 0).toNatClampNeg f) 1 (S 6 0).toNatClampNeg y) 2 (S 6 0).toNatClampNeg z) 3 (S 6 0).toNatClampNeg (-5)) (S 6 0) (cif (btw f 9 17) (-5) 0) z.toNatClampNeg) 6 0 (S 6 0 + 1)
theorem btw_in {x lo hi : Int32} {L : Nat} (h : btw x lo hi) (h0 : 0 ≤ lo.toInt) (h1 : hi.toInt < L) : vp_in x L := by
  rw [vp_in_iff]
  obtain ⟨a1, a2⟩ := h
  rw [Int32.lt_iff_toInt_lt] at a1 a2
  omega
theorem btw_sub {x : Int32} (h : btw x 4 8) : vp_in (x - 3) 6 := by
  obtain ⟨a1, a2⟩ := h
  rw [Int32.lt_iff_toInt_lt] at a1 a2
  have e1 : (4 : Int32).toInt = 4 := by decide
  have e2 : (8 : Int32).toInt = 8 := by decide
  rw [e1] at a1
  rw [e2] at a2
  obtain ⟨j, hj, rfl⟩ := nI_of2 (x := x) (M := 8) (n := 8) (by decide) (by rw [Int32.lt_iff_toInt_lt, Int32.toInt_zero]; omega) (by rw [Int32.le_iff_toInt_le, e2]; omega)
  rw [nI_toInt (by omega)] at a1 a2
  rw [show (3 : Int32) = nI 3 from rfl, pk_sub (by omega)]
  exact vp_in_nI (by omega) (by omega)
theorem nI110 {n : Nat} (h : n ≤ 110) {x : Int32} (e : x = nI n) : x.toInt ≤ 110 := by
  rw [e, nI_toInt (by omega)]
  omega
set_option maxHeartbeats 4000000 in
set_option maxRecDepth 100000 in
theorem c_X1_is (l : Launch) (D : va_G) (kI kJ kL : ClassId) (a q : Nat → Nat) (S : Nat → Nat → Int32) (N : Nat → Nat → Nat → Int32) (F : Nat → Option Nat) (B : Nat) (t : Int32) (k : Int32) (hn : (S 6 0).toInt ≤ 110) : Met l yX1_is wsX1_is ({ frames := 2, cells := 0, slots := 0, locals := 43 }) (q_rP D (xTY kI kJ kL) (xW kI kL a q S N F B) [.ref (a 0), .int t, .int k]) (vp_Si (fun r => r = xs_is S t k)) 0 0 (fun _ => False) := by
  refine Met.ofW (cc := cX1_is) (maxL := 3) (ret := (some .int)) (by decide) rfl ?_
  intro p e s m args below meth c s₁ Bd hml hv
  obtain ⟨rfl, hP, hK, hN⟩ := hv
  have hx := Bd.exec
  have hb := Bd.bytes
  have hr := Bd.returns
  have hts := atoms_spec (ws := wsX1_is) Bd.pre
  have hown : s.vm.findClass RX1 = some m.cls := findClass_of_methodNamed Bd.named
  have hlocks := Bd.notSynchronized
  have hl := lv_entry ([.ref (a 0), .int t, .int k]) (n := 3) (Nat.le_of_ble_eq_true rfl)
  rw [lg_entry_eq]
  generalize (lg_sl ([.ref (a 0), .int t, .int k]) ++ List.replicate (3 - (lg_sl ([.ref (a 0), .int t, .int k])).length) Slot.unset).toArray = ls at hl ⊢
  have hl : lv_has ls 3 [(0, .ref (a 0)), (1, .int t), (2, .int k)] := hl
  have hinX1 : ∀ w ∈ u_ws RX1 TX1 9, w ∈ wsX1_is := by decide +kernel
  refine lv_aload_n hx hb dX1_is_0 rfl (lv_at hl 0 rfl) ?_
  refine lv_iload_n hx hb dX1_is_1 rfl (lv_at hl 1 rfl) ?_
  refine vp_callSi (W.runV (As := [.int t]) (rest := []) ⟨hx, hb, hml, hown, hts⟩ (c_X1_isThing l D kI kJ kL a q S N F B t) (cwV 1 hts gX1_is_X1_isThing rfl rfl rfl (by decide +kernel) ⟨Nat.le_of_ble_eq_true rfl, Nat.le_of_ble_eq_true rfl⟩) (q_rV (w2 := []) hK hN (by rw [List.append_nil]; exact hP) (va_recv hK hP (ci := 4) (q0 := 0) rfl rfl)) rfl rfl hl.1 rfl (lv_room (Nat.le_of_ble_eq_true rfl)) dX1_is_2 ⟨Nat.le_of_ble_eq_true rfl, Nat.le_of_ble_eq_true rfl⟩) (fun r_h_1 h_1 => ?_)
  rcases h_1 with ⟨rfl, h_1⟩ | ⟨rfl, h_1⟩
  · refine lv_if_ne (tgt := 10) hx hb dX1_is_5 (by decide) (fun c_2 => ?_) (fun c_2 => absurd c_2 (by decide))
    refine lv_iload_n hx hb dX1_is_10 rfl (lv_at hl 2 rfl) ?_
    refine lv_iconst (v := 0) hx hb dX1_is_11 (by decide) ?_
    refine lv_bipush (v := 20) hx hb dX1_is_12 (by decide) ?_
    refine vp_callSi (W.runS (As := [.int k, .int 0, .int 20]) (rest := []) ⟨hx, hb, hml, hown, hts⟩ (c_X1_between l D kI kJ kL k 0 20) (va_cwS 3 hts gX1_is_X1_between rfl rfl rfl (by decide +kernel) ⟨Nat.le_of_ble_eq_true rfl, Nat.le_of_ble_eq_true rfl⟩) (q_rS0 hK hN) rfl rfl hl.1 rfl (lv_room (Nat.le_of_ble_eq_true rfl)) dX1_is_14 ⟨Nat.le_of_ble_eq_true rfl, Nat.le_of_ble_eq_true rfl⟩) (fun r_h_3 h_3 => ?_)
    rcases h_3 with ⟨rfl, h_3⟩ | ⟨rfl, h_3⟩
    · refine lv_if_ne (tgt := 23) hx hb dX1_is_17 (by decide) (fun c_4 => ?_) (fun c_4 => absurd c_4 (by decide))
      refine lv_aload_n hx hb dX1_is_23 rfl (lv_at hl 0 rfl) ?_
      refine lv_iload_n hx hb dX1_is_24 rfl (lv_at hl 1 rfl) ?_
      refine lv_iload_n hx hb dX1_is_25 rfl (lv_at hl 2 rfl) ?_
      refine vp_callSi (W.runV (As := [.int t, .int k]) (rest := []) ⟨hx, hb, hml, hown, hts⟩ (c_X1_isOf l D kI kJ kL a q S N F B t k hn) (cwV 2 hts gX1_is_X1_isOf rfl rfl rfl (by decide +kernel) ⟨Nat.le_of_ble_eq_true rfl, Nat.le_of_ble_eq_true rfl⟩) (q_rV (w2 := []) hK hN (by rw [List.append_nil]; exact hP) (va_recv hK hP (ci := 4) (q0 := 0) rfl rfl)) rfl rfl hl.1 rfl (lv_room (Nat.le_of_ble_eq_true rfl)) dX1_is_26 ⟨Nat.le_of_ble_eq_true rfl, Nat.le_of_ble_eq_true rfl⟩) (fun r_h_5 h_5 => ?_)
      rcases h_5 with ⟨rfl, h_5⟩ | ⟨rfl, h_5⟩
      · refine lv_if_eq (tgt := 36) hx hb dX1_is_29 (by decide) (fun c_6 => absurd c_6 (by decide)) (fun c_6 => ?_)
        refine lv_iconst (v := 1) hx hb dX1_is_32 (by decide) ?_
        refine lv_goto (tgt := 37) hx hb dX1_is_33 (by decide) ?_
        exact W.iret (v := 1) hx hb hr (fun t9 ht hW => ⟨1, rfl, (by simp only [xs_is, cif_t h_1, cif_t h_3, cif_t h_5]), ht⟩) (fun _ h => by cases h) dX1_is_37
      · refine lv_if_eq (tgt := 36) hx hb dX1_is_29 (by decide) (fun c_7 => ?_) (fun c_7 => absurd c_7 (by decide))
        refine lv_iconst (v := 0) hx hb dX1_is_36 (by decide) ?_
        exact W.iret (v := 0) hx hb hr (fun t9 ht hW => ⟨0, rfl, (by simp only [xs_is, cif_t h_1, cif_t h_3, cif_f h_5]), ht⟩) (fun _ h => by cases h) dX1_is_37
    · refine lv_if_ne (tgt := 23) hx hb dX1_is_17 (by decide) (fun c_8 => absurd c_8 (by decide)) (fun c_8 => ?_)
      refine lv_bipush (v := -2) hx hb dX1_is_20 (by decide) ?_
      exact W.iret (v := (-2)) hx hb hr (fun t9 ht hW => ⟨(-2), rfl, (by simp only [xs_is, cif_t h_1, cif_f h_3]), ht⟩) (fun _ h => by cases h) dX1_is_22
  · refine lv_if_ne (tgt := 10) hx hb dX1_is_5 (by decide) (fun c_9 => absurd c_9 (by decide)) (fun c_9 => ?_)
    refine lv_iconst (v := -1) hx hb dX1_is_8 (by decide) ?_
    exact W.iret (v := (-1)) hx hb hr (fun t9 ht hW => ⟨(-1), rfl, (by simp only [xs_is, cif_f h_1]), ht⟩) (fun _ h => by cases h) dX1_is_9

set_option maxHeartbeats 4000000 in
set_option maxRecDepth 100000 in
theorem c_X1_held (l : Launch) (D : va_G) (kI kJ kL : ClassId) (a q : Nat → Nat) (S : Nat → Nat → Int32) (N : Nat → Nat → Nat → Int32) (F : Nat → Option Nat) (B : Nat) (b : Int32) (hn : (S 6 0).toInt ≤ 110) : Met l yX1_held wsX1_held ({ frames := 2, cells := 0, slots := 0, locals := 42 }) (q_rP D (xTY kI kJ kL) (xW kI kL a q S N F B) [.ref (a 0), .int b]) (vp_Si (fun r => r = xs_held S b)) 0 0 (fun _ => False) := by
  refine Met.ofW (cc := cX1_held) (maxL := 2) (ret := (some .int)) (by decide) rfl ?_
  intro p e s m args below meth c s₁ Bd hml hv
  obtain ⟨rfl, hP, hK, hN⟩ := hv
  have hx := Bd.exec
  have hb := Bd.bytes
  have hr := Bd.returns
  have hts := atoms_spec (ws := wsX1_held) Bd.pre
  have hown : s.vm.findClass RX1 = some m.cls := findClass_of_methodNamed Bd.named
  have hlocks := Bd.notSynchronized
  have hl := lv_entry ([.ref (a 0), .int b]) (n := 2) (Nat.le_of_ble_eq_true rfl)
  rw [lg_entry_eq]
  generalize (lg_sl ([.ref (a 0), .int b]) ++ List.replicate (2 - (lg_sl ([.ref (a 0), .int b])).length) Slot.unset).toArray = ls at hl ⊢
  have hl : lv_has ls 2 [(0, .ref (a 0)), (1, .int b)] := hl
  have hinX1 : ∀ w ∈ u_ws RX1 TX1 9, w ∈ wsX1_held := by decide +kernel
  refine lv_aload_n hx hb dX1_held_0 rfl (lv_at hl 0 rfl) ?_
  refine lv_iload_n hx hb dX1_held_1 rfl (lv_at hl 1 rfl) ?_
  refine vp_callSi (W.runV (As := [.int b]) (rest := []) ⟨hx, hb, hml, hown, hts⟩ (c_X1_isCase l D kI kJ kL a q S N F B b hn) (cwV 1 hts gX1_held_X1_isCase rfl rfl rfl (by decide +kernel) ⟨Nat.le_of_ble_eq_true rfl, Nat.le_of_ble_eq_true rfl⟩) (q_rV (w2 := []) hK hN (by rw [List.append_nil]; exact hP) (va_recv hK hP (ci := 4) (q0 := 0) rfl rfl)) rfl rfl hl.1 rfl (lv_room (Nat.le_of_ble_eq_true rfl)) dX1_held_2 ⟨Nat.le_of_ble_eq_true rfl, Nat.le_of_ble_eq_true rfl⟩) (fun r_h_1 h_1 => ?_)
  rcases h_1 with ⟨rfl, h_1⟩ | ⟨rfl, h_1⟩
  · refine lv_if_eq (tgt := 17) hx hb dX1_held_5 (by decide) (fun c_2 => absurd c_2 (by decide)) (fun c_2 => ?_)
    refine lv_aload_n hx hb dX1_held_8 rfl (lv_at hl 0 rfl) ?_
    refine va_get (D := D) (ci := 4) (v := .ref (a 4)) (C := RX1) (T := TX1) (N := 9) hx hb hts hinX1 hown hK hP 0 rfl rfl 3 (by decide) (hts (.fieldLink RX1 19 "LoanCases" "holds" "[I") (by decide +kernel)) (fun _ h9 => h9) rfl dX1_held_9 ?_
    refine lv_iload_n hx hb dX1_held_12 rfl (lv_at hl 1 rfl) ?_
    refine va_iald (f := S 3) hx hb hK hP 4 0 rfl rfl (xT_in hn h_1.1) dX1_held_13 ?_
    refine lv_goto (tgt := 18) hx hb dX1_held_14 (by decide) ?_
    exact W.iret (v := (S 3 b.toNatClampNeg)) hx hb hr (fun t9 ht hW => ⟨(S 3 b.toNatClampNeg), rfl, (by simp only [xs_held, cif_t h_1]), ht⟩) (fun _ h => by cases h) dX1_held_18
  · refine lv_if_eq (tgt := 17) hx hb dX1_held_5 (by decide) (fun c_3 => ?_) (fun c_3 => absurd c_3 (by decide))
    refine lv_iconst (v := -1) hx hb dX1_held_17 (by decide) ?_
    exact W.iret (v := (-1)) hx hb hr (fun t9 ht hW => ⟨(-1), rfl, (by simp only [xs_held, cif_f h_1]), ht⟩) (fun _ h => by cases h) dX1_held_18

set_option maxHeartbeats 4000000 in
set_option maxRecDepth 100000 in
theorem c_X1_innermost (l : Launch) (D : va_G) (kI kJ kL : ClassId) (a q : Nat → Nat) (S : Nat → Nat → Int32) (N : Nat → Nat → Nat → Int32) (F : Nat → Option Nat) (B : Nat) (b : Int32) (k : Int32) (hn : (S 6 0).toInt ≤ 110) : Met l yX1_innermost wsX1_innermost ({ frames := 3, cells := 0, slots := 0, locals := 65 }) (q_rP D (xTY kI kJ kL) (xW kI kL a q S N F B) [.ref (a 0), .int b, .int k]) (vp_Si (fun r => r = xs_innermost S b k)) 0 0 (fun _ => False) := by
  refine Met.ofW (cc := cX1_innermost) (maxL := 3) (ret := (some .int)) (by decide) rfl ?_
  intro p e s m args below meth c s₁ Bd hml hv
  obtain ⟨rfl, hP, hK, hN⟩ := hv
  have hx := Bd.exec
  have hb := Bd.bytes
  have hr := Bd.returns
  have hts := atoms_spec (ws := wsX1_innermost) Bd.pre
  have hown : s.vm.findClass RX1 = some m.cls := findClass_of_methodNamed Bd.named
  have hlocks := Bd.notSynchronized
  have hl := lv_entry ([.ref (a 0), .int b, .int k]) (n := 3) (Nat.le_of_ble_eq_true rfl)
  rw [lg_entry_eq]
  generalize (lg_sl ([.ref (a 0), .int b, .int k]) ++ List.replicate (3 - (lg_sl ([.ref (a 0), .int b, .int k])).length) Slot.unset).toArray = ls at hl ⊢
  have hl : lv_has ls 3 [(0, .ref (a 0)), (1, .int b), (2, .int k)] := hl
  have hinX1 : ∀ w ∈ u_ws RX1 TX1 9, w ∈ wsX1_innermost := by decide +kernel
  refine lv_aload_n hx hb dX1_innermost_0 rfl (lv_at hl 0 rfl) ?_
  refine lv_iload_n hx hb dX1_innermost_1 rfl (lv_at hl 1 rfl) ?_
  refine vp_callSi (W.runV (As := [.int b]) (rest := []) ⟨hx, hb, hml, hown, hts⟩ (c_X1_isCase l D kI kJ kL a q S N F B b hn) (cwV 1 hts gX1_innermost_X1_isCase rfl rfl rfl (by decide +kernel) ⟨Nat.le_of_ble_eq_true rfl, Nat.le_of_ble_eq_true rfl⟩) (q_rV (w2 := []) hK hN (by rw [List.append_nil]; exact hP) (va_recv hK hP (ci := 4) (q0 := 0) rfl rfl)) rfl rfl hl.1 rfl (lv_room (Nat.le_of_ble_eq_true rfl)) dX1_innermost_2 ⟨Nat.le_of_ble_eq_true rfl, Nat.le_of_ble_eq_true rfl⟩) (fun r_h_1 h_1 => ?_)
  rcases h_1 with ⟨rfl, h_1⟩ | ⟨rfl, h_1⟩
  · refine lv_if_ne (tgt := 10) hx hb dX1_innermost_5 (by decide) (fun c_2 => ?_) (fun c_2 => absurd c_2 (by decide))
    refine lv_iload_n hx hb dX1_innermost_10 rfl (lv_at hl 2 rfl) ?_
    refine lv_iconst (v := 0) hx hb dX1_innermost_11 (by decide) ?_
    refine lv_bipush (v := 20) hx hb dX1_innermost_12 (by decide) ?_
    refine vp_callSi (W.runS (As := [.int k, .int 0, .int 20]) (rest := []) ⟨hx, hb, hml, hown, hts⟩ (c_X1_between l D kI kJ kL k 0 20) (va_cwS 3 hts gX1_innermost_X1_between rfl rfl rfl (by decide +kernel) ⟨Nat.le_of_ble_eq_true rfl, Nat.le_of_ble_eq_true rfl⟩) (q_rS0 hK hN) rfl rfl hl.1 rfl (lv_room (Nat.le_of_ble_eq_true rfl)) dX1_innermost_14 ⟨Nat.le_of_ble_eq_true rfl, Nat.le_of_ble_eq_true rfl⟩) (fun r_h_3 h_3 => ?_)
    rcases h_3 with ⟨rfl, h_3⟩ | ⟨rfl, h_3⟩
    · refine lv_if_ne (tgt := 23) hx hb dX1_innermost_17 (by decide) (fun c_4 => ?_) (fun c_4 => absurd c_4 (by decide))
      refine lv_aload_n hx hb dX1_innermost_23 rfl (lv_at hl 0 rfl) ?_
      refine lv_aload_n hx hb dX1_innermost_24 rfl (lv_at hl 0 rfl) ?_
      refine lv_iload_n hx hb dX1_innermost_25 rfl (lv_at hl 1 rfl) ?_
      refine vp_callSi (W.runV (As := [.int b]) (rest := [.ref (a 0)]) ⟨hx, hb, hml, hown, hts⟩ (c_X1_innermostOf l D kI kJ kL a q S N F B b hn (xT_in hn h_1.1)) (cwV 1 hts gX1_innermost_X1_innermostOf rfl rfl rfl (by decide +kernel) ⟨Nat.le_of_ble_eq_true rfl, Nat.le_of_ble_eq_true rfl⟩) (q_rV (w2 := []) hK hN (by rw [List.append_nil]; exact hP) (va_recv hK hP (ci := 4) (q0 := 0) rfl rfl)) rfl rfl hl.1 rfl (lv_room (Nat.le_of_ble_eq_true rfl)) dX1_innermost_26 ⟨Nat.le_of_ble_eq_true rfl, Nat.le_of_ble_eq_true rfl⟩) (fun r_6 h_5 => ?_)
      subst h_5
      refine lv_iload_n hx hb dX1_innermost_29 rfl (lv_at hl 2 rfl) ?_
      refine vp_callSi (W.runV (As := [.int (xin S 110 (S 3 b.toNatClampNeg)), .int k]) (rest := []) ⟨hx, hb, hml, hown, hts⟩ (c_X1_isOf l D kI kJ kL a q S N F B (xin S 110 (S 3 b.toNatClampNeg)) k hn) (cwV 2 hts gX1_innermost_X1_isOf rfl rfl rfl (by decide +kernel) ⟨Nat.le_of_ble_eq_true rfl, Nat.le_of_ble_eq_true rfl⟩) (q_rV (w2 := []) hK hN (by rw [List.append_nil]; exact hP) (va_recv hK hP (ci := 4) (q0 := 0) rfl rfl)) rfl rfl hl.1 rfl (lv_room (Nat.le_of_ble_eq_true rfl)) dX1_innermost_30 ⟨Nat.le_of_ble_eq_true rfl, Nat.le_of_ble_eq_true rfl⟩) (fun r_h_7 h_7 => ?_)
      rcases h_7 with ⟨rfl, h_7⟩ | ⟨rfl, h_7⟩
      · refine lv_if_eq (tgt := 40) hx hb dX1_innermost_33 (by decide) (fun c_8 => absurd c_8 (by decide)) (fun c_8 => ?_)
        refine lv_iconst (v := 1) hx hb dX1_innermost_36 (by decide) ?_
        refine lv_goto (tgt := 41) hx hb dX1_innermost_37 (by decide) ?_
        exact W.iret (v := 1) hx hb hr (fun t9 ht hW => ⟨1, rfl, (by simp only [xs_innermost, cif_t h_1, cif_t h_3, cif_t h_7]), ht⟩) (fun _ h => by cases h) dX1_innermost_41
      · refine lv_if_eq (tgt := 40) hx hb dX1_innermost_33 (by decide) (fun c_9 => ?_) (fun c_9 => absurd c_9 (by decide))
        refine lv_iconst (v := 0) hx hb dX1_innermost_40 (by decide) ?_
        exact W.iret (v := 0) hx hb hr (fun t9 ht hW => ⟨0, rfl, (by simp only [xs_innermost, cif_t h_1, cif_t h_3, cif_f h_7]), ht⟩) (fun _ h => by cases h) dX1_innermost_41
    · refine lv_if_ne (tgt := 23) hx hb dX1_innermost_17 (by decide) (fun c_10 => absurd c_10 (by decide)) (fun c_10 => ?_)
      refine lv_bipush (v := -2) hx hb dX1_innermost_20 (by decide) ?_
      exact W.iret (v := (-2)) hx hb hr (fun t9 ht hW => ⟨(-2), rfl, (by simp only [xs_innermost, cif_t h_1, cif_f h_3]), ht⟩) (fun _ h => by cases h) dX1_innermost_22
  · refine lv_if_ne (tgt := 10) hx hb dX1_innermost_5 (by decide) (fun c_11 => absurd c_11 (by decide)) (fun c_11 => ?_)
    refine lv_iconst (v := -1) hx hb dX1_innermost_8 (by decide) ?_
    exact W.iret (v := (-1)) hx hb hr (fun t9 ht hW => ⟨(-1), rfl, (by simp only [xs_innermost, cif_f h_1]), ht⟩) (fun _ h => by cases h) dX1_innermost_9

set_option maxHeartbeats 4000000 in
set_option maxRecDepth 100000 in
theorem c_X1_kinds (l : Launch) (D : va_G) (kI kJ kL : ClassId) (a q : Nat → Nat) (S : Nat → Nat → Int32) (N : Nat → Nat → Nat → Int32) (F : Nat → Option Nat) (B : Nat) (t : Int32) (hn : (S 6 0).toInt ≤ 110) : Met l yX1_kinds wsX1_kinds ({ frames := 2, cells := 0, slots := 0, locals := 43 }) (q_rP D (xTY kI kJ kL) (xW kI kL a q S N F B) [.ref (a 0), .int t]) (vp_Si (fun r => r = xs_kinds S t)) 0 0 (fun _ => False) := by
  refine Met.ofW (cc := cX1_kinds) (maxL := 4) (ret := (some .int)) (by decide) rfl ?_
  intro p e s m args below meth c s₁ Bd hml hv
  obtain ⟨rfl, hP, hK, hN⟩ := hv
  have hx := Bd.exec
  have hb := Bd.bytes
  have hr := Bd.returns
  have hts := atoms_spec (ws := wsX1_kinds) Bd.pre
  have hown : s.vm.findClass RX1 = some m.cls := findClass_of_methodNamed Bd.named
  have hlocks := Bd.notSynchronized
  have hl := lv_entry ([.ref (a 0), .int t]) (n := 4) (Nat.le_of_ble_eq_true rfl)
  rw [lg_entry_eq]
  generalize (lg_sl ([.ref (a 0), .int t]) ++ List.replicate (4 - (lg_sl ([.ref (a 0), .int t])).length) Slot.unset).toArray = ls at hl ⊢
  have hl : lv_has ls 4 [(0, .ref (a 0)), (1, .int t)] := hl
  have hinX1 : ∀ w ∈ u_ws RX1 TX1 9, w ∈ wsX1_kinds := by decide +kernel
  refine lv_aload_n hx hb dX1_kinds_0 rfl (lv_at hl 0 rfl) ?_
  refine lv_iload_n hx hb dX1_kinds_1 rfl (lv_at hl 1 rfl) ?_
  refine vp_callSi (W.runV (As := [.int t]) (rest := []) ⟨hx, hb, hml, hown, hts⟩ (c_X1_isThing l D kI kJ kL a q S N F B t) (cwV 1 hts gX1_kinds_X1_isThing rfl rfl rfl (by decide +kernel) ⟨Nat.le_of_ble_eq_true rfl, Nat.le_of_ble_eq_true rfl⟩) (q_rV (w2 := []) hK hN (by rw [List.append_nil]; exact hP) (va_recv hK hP (ci := 4) (q0 := 0) rfl rfl)) rfl rfl hl.1 rfl (lv_room (Nat.le_of_ble_eq_true rfl)) dX1_kinds_2 ⟨Nat.le_of_ble_eq_true rfl, Nat.le_of_ble_eq_true rfl⟩) (fun r_h_1 h_1 => ?_)
  rcases h_1 with ⟨rfl, h_1⟩ | ⟨rfl, h_1⟩
  · refine lv_if_ne (tgt := 10) hx hb dX1_kinds_5 (by decide) (fun c_2 => ?_) (fun c_2 => absurd c_2 (by decide))
    refine lv_iconst (v := 0) hx hb dX1_kinds_10 (by decide) ?_
    refine lv_istore_n (lv' := [(2, .int 0), (0, .ref (a 0)), (1, .int t)]) hx hb dX1_kinds_11 rfl hl (by decide) rfl (fun ls hl => ?_)
    refine lv_iconst (v := 0) hx hb dX1_kinds_12 (by decide) ?_
    refine lv_istore_n (lv' := [(3, .int 0), (2, .int 0), (0, .ref (a 0)), (1, .int t)]) hx hb dX1_kinds_13 rfl hl (by decide) rfl (fun ls hl => ?_)
    have loop14 : ∀ (n14 : Nat) (i : Nat) (x2 : Int32), (21 ≤ i + n14) → (i ≤ 20) → (x2 = xkn S t i) → ∀ (ls : Array Slot), lv_has ls 4 [(0, .ref (a 0)), (1, .int t), (2, .int x2), (3, .int (nI i))] → W p l e ({ frames := 2, cells := 0, slots := 0, locals := 43 }) s m ([.ref (a 0), .int t] : List Value).toArray below meth c s.heap [] 0 0 (MQ below (vp_Si (fun r => r = xs_kinds S t)) ([.ref (a 0), .int t] : List Value).toArray s 0 0 (fun _ => False)) (F0 m 14 ls []) := by
      intro n14
      induction n14 with
      | zero =>
        intro i x2 hf hi hv
        exact absurd hf (by omega)
      | succ n14 ih14 =>
        intro i x2 hf hi hv ls hl
        refine lv_iload_n hx hb dX1_kinds_14 rfl (lv_at hl 3 rfl) ?_
        refine lv_bipush (v := 19) hx hb dX1_kinds_15 (by decide) ?_
        refine lv_icmp_gt (tgt := 38) hx hb dX1_kinds_17 (by decide) (fun c_3 => ?_) (fun c_3 => ?_)
        · have hi2 : 19 < i := (nI_ltI (a := 19) (b := i) (by omega) (by omega)).mp c_3
          refine lv_iload_n hx hb dX1_kinds_38 rfl (lv_at hl 2 rfl) ?_
          exact W.iret (v := x2) hx hb hr (fun t9 ht hW => ⟨x2, rfl, (by rw [xs_kinds, cif_t h_1, hv, show i = 20 by omega]), ht⟩) (fun _ h => by cases h) dX1_kinds_39
        · have hi2 : i ≤ 19 := Nat.le_of_not_lt (fun h8 => c_3 ((nI_ltI (a := 19) (b := i) (by omega) (by omega)).mpr h8))
          refine lv_aload_n hx hb dX1_kinds_20 rfl (lv_at hl 0 rfl) ?_
          refine lv_iload_n hx hb dX1_kinds_21 rfl (lv_at hl 1 rfl) ?_
          refine lv_iload_n hx hb dX1_kinds_22 rfl (lv_at hl 3 rfl) ?_
          refine vp_callSi (W.runV (As := [.int t, .int (nI i)]) (rest := []) ⟨hx, hb, hml, hown, hts⟩ (c_X1_isOf l D kI kJ kL a q S N F B t (nI i) hn) (cwV 2 hts gX1_kinds_X1_isOf rfl rfl rfl (by decide +kernel) ⟨Nat.le_of_ble_eq_true rfl, Nat.le_of_ble_eq_true rfl⟩) (q_rV (w2 := []) hK hN (by rw [List.append_nil]; exact hP) (va_recv hK hP (ci := 4) (q0 := 0) rfl rfl)) rfl rfl hl.1 rfl (lv_room (Nat.le_of_ble_eq_true rfl)) dX1_kinds_23 ⟨Nat.le_of_ble_eq_true rfl, Nat.le_of_ble_eq_true rfl⟩) (fun r_h_4 h_4 => ?_)
          rcases h_4 with ⟨rfl, h_4⟩ | ⟨rfl, h_4⟩
          · refine lv_if_eq (tgt := 32) hx hb dX1_kinds_26 (by decide) (fun c_5 => absurd c_5 (by decide)) (fun c_5 => ?_)
            obtain ⟨x_6, ex_6⟩ : ∃ y : Int32, y = x2 + (1) := ⟨_, rfl⟩
            refine lv_iinc (v := x_6) (lv' := [(2, .int x_6), (0, .ref (a 0)), (1, .int t), (3, .int (nI i))]) hx hb dX1_kinds_29 hl (k := 2) rfl (by rw [ex_6]; rfl) (by decide) rfl (fun ls hl => ?_)
            obtain ⟨x_7, ex_7⟩ : ∃ y : Int32, y = (nI i) + (1) := ⟨_, rfl⟩
            refine lv_iinc (v := x_7) (lv' := [(3, .int x_7), (2, .int x_6), (0, .ref (a 0)), (1, .int t)]) hx hb dX1_kinds_32 hl (k := 3) rfl (by rw [ex_7]; rfl) (by decide) rfl (fun ls hl => ?_)
            refine lv_goto (tgt := 14) hx hb dX1_kinds_35 (by decide) ?_
            rw [show x_7 = nI (i + 1) from (ex_7).trans (nI_1 i)] at hl
            exact ih14 (i + 1) x_6 (by omega) (by omega) (by rw [ex_6, hv, xkn, cif_t h_4]) ls (lv_sub hl [2, 3, 1, 0] rfl)
          · refine lv_if_eq (tgt := 32) hx hb dX1_kinds_26 (by decide) (fun c_8 => ?_) (fun c_8 => absurd c_8 (by decide))
            obtain ⟨x_9, ex_9⟩ : ∃ y : Int32, y = (nI i) + (1) := ⟨_, rfl⟩
            refine lv_iinc (v := x_9) (lv' := [(3, .int x_9), (0, .ref (a 0)), (1, .int t), (2, .int x2)]) hx hb dX1_kinds_32 hl (k := 3) rfl (by rw [ex_9]; rfl) (by decide) rfl (fun ls hl => ?_)
            refine lv_goto (tgt := 14) hx hb dX1_kinds_35 (by decide) ?_
            rw [show x_9 = nI (i + 1) from (ex_9).trans (nI_1 i)] at hl
            exact ih14 (i + 1) x2 (by omega) (by omega) (by rw [hv, xkn, cif_f h_4]) ls (lv_sub hl [1, 2, 3, 0] rfl)
    exact loop14 21 0 0 (by omega) (by omega) rfl ls (lv_sub hl [2, 3, 1, 0] rfl)
  · refine lv_if_ne (tgt := 10) hx hb dX1_kinds_5 (by decide) (fun c_10 => absurd c_10 (by decide)) (fun c_10 => ?_)
    refine lv_iconst (v := -1) hx hb dX1_kinds_8 (by decide) ?_
    exact W.iret (v := (-1)) hx hb hr (fun t9 ht hW => ⟨(-1), rfl, (by simp only [xs_kinds, cif_f h_1]), ht⟩) (fun _ h => by cases h) dX1_kinds_9

set_option maxHeartbeats 4000000 in
set_option maxRecDepth 100000 in
theorem c_X1_depth (l : Launch) (D : va_G) (kI kJ kL : ClassId) (a q : Nat → Nat) (S : Nat → Nat → Int32) (N : Nat → Nat → Nat → Int32) (F : Nat → Option Nat) (B : Nat) (b : Int32) (hn : (S 6 0).toInt ≤ 110) : Met l yX1_depth wsX1_depth ({ frames := 2, cells := 0, slots := 0, locals := 42 }) (q_rP D (xTY kI kJ kL) (xW kI kL a q S N F B) [.ref (a 0), .int b]) (vp_Si (fun r => r = xs_depth S b)) 0 0 (fun _ => False) := by
  refine Met.ofW (cc := cX1_depth) (maxL := 4) (ret := (some .int)) (by decide) rfl ?_
  intro p e s m args below meth c s₁ Bd hml hv
  obtain ⟨rfl, hP, hK, hN⟩ := hv
  have hx := Bd.exec
  have hb := Bd.bytes
  have hr := Bd.returns
  have hts := atoms_spec (ws := wsX1_depth) Bd.pre
  have hown : s.vm.findClass RX1 = some m.cls := findClass_of_methodNamed Bd.named
  have hlocks := Bd.notSynchronized
  have hl := lv_entry ([.ref (a 0), .int b]) (n := 4) (Nat.le_of_ble_eq_true rfl)
  rw [lg_entry_eq]
  generalize (lg_sl ([.ref (a 0), .int b]) ++ List.replicate (4 - (lg_sl ([.ref (a 0), .int b])).length) Slot.unset).toArray = ls at hl ⊢
  have hl : lv_has ls 4 [(0, .ref (a 0)), (1, .int b)] := hl
  have hinX1 : ∀ w ∈ u_ws RX1 TX1 9, w ∈ wsX1_depth := by decide +kernel
  refine lv_aload_n hx hb dX1_depth_0 rfl (lv_at hl 0 rfl) ?_
  refine lv_iload_n hx hb dX1_depth_1 rfl (lv_at hl 1 rfl) ?_
  refine vp_callSi (W.runV (As := [.int b]) (rest := []) ⟨hx, hb, hml, hown, hts⟩ (c_X1_isCase l D kI kJ kL a q S N F B b hn) (cwV 1 hts gX1_depth_X1_isCase rfl rfl rfl (by decide +kernel) ⟨Nat.le_of_ble_eq_true rfl, Nat.le_of_ble_eq_true rfl⟩) (q_rV (w2 := []) hK hN (by rw [List.append_nil]; exact hP) (va_recv hK hP (ci := 4) (q0 := 0) rfl rfl)) rfl rfl hl.1 rfl (lv_room (Nat.le_of_ble_eq_true rfl)) dX1_depth_2 ⟨Nat.le_of_ble_eq_true rfl, Nat.le_of_ble_eq_true rfl⟩) (fun r_h_1 h_1 => ?_)
  rcases h_1 with ⟨rfl, h_1⟩ | ⟨rfl, h_1⟩
  · refine lv_if_ne (tgt := 10) hx hb dX1_depth_5 (by decide) (fun c_2 => ?_) (fun c_2 => absurd c_2 (by decide))
    refine lv_iconst (v := 1) hx hb dX1_depth_10 (by decide) ?_
    refine lv_istore_n (lv' := [(2, .int 1), (0, .ref (a 0)), (1, .int b)]) hx hb dX1_depth_11 rfl hl (by decide) rfl (fun ls hl => ?_)
    refine lv_aload_n hx hb dX1_depth_12 rfl (lv_at hl 1 rfl) ?_
    refine va_get (D := D) (ci := 4) (v := .ref (a 4)) (C := RX1) (T := TX1) (N := 9) hx hb hts hinX1 hown hK hP 0 rfl rfl 3 (by decide) (hts (.fieldLink RX1 19 "LoanCases" "holds" "[I") (by decide +kernel)) (fun _ h9 => h9) rfl dX1_depth_13 ?_
    refine lv_iload_n hx hb dX1_depth_16 rfl (lv_at hl 2 rfl) ?_
    refine va_iald (f := S 3) hx hb hK hP 4 0 rfl rfl (xT_in hn h_1.1) dX1_depth_17 ?_
    refine lv_topi (fun x_3 ex_3 => ?_)
    refine lv_istore_n (lv' := [(3, .int x_3), (2, .int 1), (0, .ref (a 0)), (1, .int b)]) hx hb dX1_depth_18 rfl hl (by decide) rfl (fun ls hl => ?_)
    have loop19 : ∀ (n19 : Nat) (i : Nat) (x3 : Int32), (111 ≤ i + n19) → (1 ≤ i ∧ i ≤ 110) → (xdp S (110 - i) x3 (nI i) = xdp S 109 (S 3 b.toNatClampNeg) 1) → ∀ (ls : Array Slot), lv_has ls 4 [(0, .ref (a 0)), (1, .int b), (2, .int (nI i)), (3, .int x3)] → W p l e ({ frames := 2, cells := 0, slots := 0, locals := 42 }) s m ([.ref (a 0), .int b] : List Value).toArray below meth c s.heap [] 0 0 (MQ below (vp_Si (fun r => r = xs_depth S b)) ([.ref (a 0), .int b] : List Value).toArray s 0 0 (fun _ => False)) (F0 m 19 ls []) := by
      intro n19
      induction n19 with
      | zero =>
        intro i x3 hf hi hv
        exact absurd hf (by omega)
      | succ n19 ih19 =>
        intro i x3 hf hi hv ls hl
        refine lv_iload_n hx hb dX1_depth_19 rfl (lv_at hl 2 rfl) ?_
        refine lv_bipush (v := 110) hx hb dX1_depth_20 (by decide) ?_
        refine lv_icmp_ge (tgt := 46) hx hb dX1_depth_22 (by decide) (fun c_4 => ?_) (fun c_4 => ?_)
        · have hE : nI i = xdp S 109 (S 3 b.toNatClampNeg) 1 := by
            have h7 : 110 ≤ i := (nI_leI (a := 110) (b := i) (by omega) (by omega)).mp c_4
            rw [show 110 - i = 0 by omega] at hv
            exact hv
          refine lv_iload_n hx hb dX1_depth_46 rfl (lv_at hl 2 rfl) ?_
          exact W.iret (v := (nI i)) hx hb hr (fun t9 ht hW => ⟨(nI i), rfl, (by rw [xs_depth, cif_t h_1]; exact hE), ht⟩) (fun _ h => by cases h) dX1_depth_47
        · have hi2 : i < 110 := Nat.lt_of_not_le (fun h8 => c_4 ((nI_leI (a := 110) (b := i) (by omega) (by omega)).mpr h8))
          rw [show 110 - i = (110 - (i + 1)) + 1 by omega, xdp] at hv
          refine lv_aload_n hx hb dX1_depth_25 rfl (lv_at hl 0 rfl) ?_
          refine lv_iload_n hx hb dX1_depth_26 rfl (lv_at hl 3 rfl) ?_
          refine vp_callSi (W.runV (As := [.int x3]) (rest := []) ⟨hx, hb, hml, hown, hts⟩ (c_X1_isCase l D kI kJ kL a q S N F B x3 hn) (cwV 1 hts gX1_depth_X1_isCase rfl rfl rfl (by decide +kernel) ⟨Nat.le_of_ble_eq_true rfl, Nat.le_of_ble_eq_true rfl⟩) (q_rV (w2 := []) hK hN (by rw [List.append_nil]; exact hP) (va_recv hK hP (ci := 4) (q0 := 0) rfl rfl)) rfl rfl hl.1 rfl (lv_room (Nat.le_of_ble_eq_true rfl)) dX1_depth_27 ⟨Nat.le_of_ble_eq_true rfl, Nat.le_of_ble_eq_true rfl⟩) (fun r_h_5 h_5 => ?_)
          rcases h_5 with ⟨rfl, h_5⟩ | ⟨rfl, h_5⟩
          · rw [cif_t h_5, nI_1] at hv
            refine lv_if_eq (tgt := 46) hx hb dX1_depth_30 (by decide) (fun c_6 => absurd c_6 (by decide)) (fun c_6 => ?_)
            refine lv_aload_n hx hb dX1_depth_33 rfl (lv_at hl 0 rfl) ?_
            refine va_get (D := D) (ci := 4) (v := .ref (a 4)) (C := RX1) (T := TX1) (N := 9) hx hb hts hinX1 hown hK hP 0 rfl rfl 3 (by decide) (hts (.fieldLink RX1 19 "LoanCases" "holds" "[I") (by decide +kernel)) (fun _ h9 => h9) rfl dX1_depth_34 ?_
            refine lv_iload_n hx hb dX1_depth_37 rfl (lv_at hl 3 rfl) ?_
            refine va_iald (f := S 3) hx hb hK hP 4 0 rfl rfl (xT_in hn h_5.1) dX1_depth_38 ?_
            refine lv_topi (fun x_7 ex_7 => ?_)
            refine lv_istore_n (lv' := [(3, .int x_7), (0, .ref (a 0)), (1, .int b), (2, .int (nI i))]) hx hb dX1_depth_39 rfl hl (by decide) rfl (fun ls hl => ?_)
            obtain ⟨x_8, ex_8⟩ : ∃ y : Int32, y = (nI i) + (1) := ⟨_, rfl⟩
            refine lv_iinc (v := x_8) (lv' := [(2, .int x_8), (3, .int x_7), (0, .ref (a 0)), (1, .int b)]) hx hb dX1_depth_40 hl (k := 3) rfl (by rw [ex_8]; rfl) (by decide) rfl (fun ls hl => ?_)
            refine lv_goto (tgt := 19) hx hb dX1_depth_43 (by decide) ?_
            rw [show x_8 = nI (i + 1) from (ex_8).trans (nI_1 i)] at hl
            exact ih19 (i + 1) x_7 (by omega) (by omega) (by rw [ex_7]; exact hv) ls (lv_sub hl [2, 3, 0, 1] rfl)
          · rw [cif_f h_5] at hv
            have hE : nI i = xdp S 109 (S 3 b.toNatClampNeg) 1 := hv
            refine lv_if_eq (tgt := 46) hx hb dX1_depth_30 (by decide) (fun c_9 => ?_) (fun c_9 => absurd c_9 (by decide))
            refine lv_iload_n hx hb dX1_depth_46 rfl (lv_at hl 2 rfl) ?_
            exact W.iret (v := (nI i)) hx hb hr (fun t9 ht hW => ⟨(nI i), rfl, (by rw [xs_depth, cif_t h_1]; exact hE), ht⟩) (fun _ h => by cases h) dX1_depth_47
    exact loop19 111 1 x_3 (by omega) (by omega) (by rw [ex_3]; rfl) ls (lv_sub hl [2, 3, 1, 0] rfl)
  · refine lv_if_ne (tgt := 10) hx hb dX1_depth_5 (by decide) (fun c_10 => absurd c_10 (by decide)) (fun c_10 => ?_)
    refine lv_iconst (v := -1) hx hb dX1_depth_8 (by decide) ?_
    exact W.iret (v := (-1)) hx hb hr (fun t9 ht hW => ⟨(-1), rfl, (by simp only [xs_depth, cif_f h_1]), ht⟩) (fun _ h => by cases h) dX1_depth_9

set_option maxHeartbeats 4000000 in
set_option maxRecDepth 100000 in
theorem c_X1_told (l : Launch) (D : va_G) (kI kJ kL : ClassId) (a q : Nat → Nat) (S : Nat → Nat → Int32) (N : Nat → Nat → Nat → Int32) (F : Nat → Option Nat) (B : Nat) (j : Int32) (w : Int32) (hb7 : S 7 0 = nI B) (hB : B ≤ 8) (hF : ∀ j, j < B → F j = some (q (4 * j))) : Met l yX1_told wsX1_told ({ frames := 1, cells := 0, slots := 0, locals := 22 }) (q_rP D (xTY kI kJ kL) (xW kI kL a q S N F B) [.ref (a 0), .int j, .int w]) (vp_Si (fun r => r = xs_told S N j w)) 0 0 (fun _ => False) := by
  refine Met.ofW (cc := cX1_told) (maxL := 4) (ret := (some .int)) (by decide) rfl ?_
  intro p e s m args below meth c s₁ Bd hml hv
  obtain ⟨rfl, hP, hK, hN⟩ := hv
  have hx := Bd.exec
  have hb := Bd.bytes
  have hr := Bd.returns
  have hts := atoms_spec (ws := wsX1_told) Bd.pre
  have hown : s.vm.findClass RX1 = some m.cls := findClass_of_methodNamed Bd.named
  have hlocks := Bd.notSynchronized
  have hl := lv_entry ([.ref (a 0), .int j, .int w]) (n := 4) (Nat.le_of_ble_eq_true rfl)
  rw [lg_entry_eq]
  generalize (lg_sl ([.ref (a 0), .int j, .int w]) ++ List.replicate (4 - (lg_sl ([.ref (a 0), .int j, .int w])).length) Slot.unset).toArray = ls at hl ⊢
  have hl : lv_has ls 4 [(0, .ref (a 0)), (1, .int j), (2, .int w)] := hl
  have hinX0 : ∀ w ∈ u_ws RX0 TX0 6, w ∈ wsX1_told := by decide +kernel
  have hinX1 : ∀ w ∈ u_ws RX1 TX1 9, w ∈ wsX1_told := by decide +kernel
  refine lv_aload_n hx hb dX1_told_0 rfl (lv_at hl 0 rfl) ?_
  refine lv_iload_n hx hb dX1_told_1 rfl (lv_at hl 1 rfl) ?_
  refine va_csq (W.runV (As := [.int j]) (rest := []) ⟨hx, hb, hml, hown, hts⟩ (c_X1_loanOf l D kI kJ kL a q S N F B j hb7 hB hF) (cwV 1 hts gX1_told_X1_loanOf rfl rfl rfl (by decide +kernel) ⟨Nat.le_of_ble_eq_true rfl, Nat.le_of_ble_eq_true rfl⟩) (q_rV (w2 := []) hK hN (by rw [List.append_nil]; exact hP) (va_recv hK hP (ci := 4) (q0 := 0) rfl rfl)) rfl rfl hl.1 rfl (lv_room (Nat.le_of_ble_eq_true rfl)) dX1_told_2 ⟨Nat.le_of_ble_eq_true rfl, Nat.le_of_ble_eq_true rfl⟩) (fun r_2 h_1 => ?_)
  rcases h_1 with ⟨rfl, h_1⟩ | ⟨rfl, h_1, h_1j⟩
  · refine lv_astore_nN (lv' := [(3, .null), (0, .ref (a 0)), (1, .int j), (2, .int w)]) hx hb dX1_told_5 rfl hl (by decide) rfl (fun ls hl => ?_)
    refine lv_aload_nN hx hb dX1_told_6 rfl (lv_at hl 0 rfl) ?_
    refine lv_ifnonnullN hx hb dX1_told_7 ?_
    refine lv_iconst (v := -1) hx hb dX1_told_10 (by decide) ?_
    exact W.iret (v := (-1)) hx hb hr (fun t9 ht hW => ⟨(-1), rfl, (by simp only [xs_told, cif_f h_1]), ht⟩) (fun _ h => by cases h) dX1_told_11
  · refine lv_astore_n (lv' := [(3, .ref (q (4 * j.toNatClampNeg))), (0, .ref (a 0)), (1, .int j), (2, .int w)]) hx hb dX1_told_5 rfl hl (by decide) rfl (fun ls hl => ?_)
    refine lv_aload_n hx hb dX1_told_6 rfl (lv_at hl 0 rfl) ?_
    refine lv_ifnonnull (tgt := 12) hx hb dX1_told_7 (by decide) ?_
    refine lv_iload_n hx hb dX1_told_12 rfl (lv_at hl 3 rfl) ?_
    rcases (show w.toInt < 0 ∨ 3 < w.toInt ∨ w.toInt = 0 ∨ w.toInt = 1 ∨ w.toInt = 2 ∨ w.toInt = 3 by omega) with c_3 | c_3 | c_3 | c_3 | c_3 | c_3
    · refine lv_tableOut (tgt := 64) hx hb dX1_told_13 (Or.inl c_3) (by decide) ?_
      refine lv_bipush (v := -2) hx hb dX1_told_64 (by decide) ?_
      exact W.iret (v := (-2)) hx hb hr (fun t9 ht hW => ⟨(-2), rfl, (by simp [xs_told, cif_t h_1, show ¬ w = 0 from fun h9 => by rw [h9] at c_3; exact absurd c_3 (by decide), show ¬ w = 1 from fun h9 => by rw [h9] at c_3; exact absurd c_3 (by decide), show ¬ w = 2 from fun h9 => by rw [h9] at c_3; exact absurd c_3 (by decide), show ¬ w = 3 from fun h9 => by rw [h9] at c_3; exact absurd c_3 (by decide)]), ht⟩) (fun _ h => by cases h) dX1_told_66
    · refine lv_tableOut (tgt := 64) hx hb dX1_told_13 (Or.inr c_3) (by decide) ?_
      refine lv_bipush (v := -2) hx hb dX1_told_64 (by decide) ?_
      exact W.iret (v := (-2)) hx hb hr (fun t9 ht hW => ⟨(-2), rfl, (by simp [xs_told, cif_t h_1, show ¬ w = 0 from fun h9 => by rw [h9] at c_3; exact absurd c_3 (by decide), show ¬ w = 1 from fun h9 => by rw [h9] at c_3; exact absurd c_3 (by decide), show ¬ w = 2 from fun h9 => by rw [h9] at c_3; exact absurd c_3 (by decide), show ¬ w = 3 from fun h9 => by rw [h9] at c_3; exact absurd c_3 (by decide)]), ht⟩) (fun _ h => by cases h) dX1_told_66
    · refine lv_tableIn (tgt := 44) hx hb dX1_told_13 (by omega) (by omega) (by rw [c_3]; rfl) (by decide) ?_
      have c_3 : w = 0 := Int32.toInt_inj.mp c_3
      refine lv_aload_n hx hb dX1_told_44 rfl (lv_at hl 0 rfl) ?_
      refine va_getN (D := D) (ci := 3) (v := .int (N j.toNatClampNeg 0 0)) (C := RX0) (T := TX0) (N := 6) hx hb hts hinX0 hown hK hP (8 + 4 * j.toNatClampNeg) (xL_obj h_1j) rfl 0 (by decide) (va_Nw.use rfl hN.1) (fun _ h9 => h9) rfl dX1_told_45 ?_
      exact W.iret (v := (N j.toNatClampNeg 0 0)) hx hb hr (fun t9 ht hW => ⟨(N j.toNatClampNeg 0 0), rfl, (by simp [xs_told, cif_t h_1, c_3]), ht⟩) (fun _ h => by cases h) dX1_told_48
    · refine lv_tableIn (tgt := 49) hx hb dX1_told_13 (by omega) (by omega) (by rw [c_3]; rfl) (by decide) ?_
      have c_3 : w = 1 := Int32.toInt_inj.mp c_3
      refine lv_aload_n hx hb dX1_told_49 rfl (lv_at hl 0 rfl) ?_
      refine va_getN (D := D) (ci := 3) (v := .int (N j.toNatClampNeg 1 0)) (C := RX0) (T := TX0) (N := 6) hx hb hts hinX0 hown hK hP (8 + 4 * j.toNatClampNeg) (xL_obj h_1j) rfl 1 (by decide) (va_Nw.use rfl hN.2.1) (fun _ h9 => h9) rfl dX1_told_50 ?_
      exact W.iret (v := (N j.toNatClampNeg 1 0)) hx hb hr (fun t9 ht hW => ⟨(N j.toNatClampNeg 1 0), rfl, (by simp [xs_told, cif_t h_1, c_3]), ht⟩) (fun _ h => by cases h) dX1_told_53
    · refine lv_tableIn (tgt := 54) hx hb dX1_told_13 (by omega) (by omega) (by rw [c_3]; rfl) (by decide) ?_
      have c_3 : w = 2 := Int32.toInt_inj.mp c_3
      refine lv_aload_n hx hb dX1_told_54 rfl (lv_at hl 0 rfl) ?_
      refine vp_callSi (va_Run.run (va_runVN (As := []) (rest := []) ⟨hx, hb, hml, hown, hts⟩ (c_X0_loaded l D kI kJ kL a q S N F B j.toNatClampNeg h_1j) ⟨va_cnB 0 hts gX1_told_X0_loaded_n134 rfl rfl rfl hN.2.2.2.2.2.2.2.2.2 (hts (.initialized RX0) (by decide +kernel)) (by decide +kernel) ⟨Nat.le_of_ble_eq_true rfl, Nat.le_of_ble_eq_true rfl⟩, hts (.instanceMethod yX0_loaded) (by decide +kernel), hts (.selects RX0 yX0_loaded yX0_loaded) (by decide +kernel)⟩ (q_rV (w2 := []) hK hN (by rw [List.append_nil]; exact hP) (va_recv hK hP (ci := 3) (q0 := 8 + 4 * j.toNatClampNeg) rfl (xL_obj h_1j))) rfl rfl hl.1 rfl (lv_room (Nat.le_of_ble_eq_true rfl)) dX1_told_55 ⟨Nat.le_of_ble_eq_true rfl, Nat.le_of_ble_eq_true rfl⟩)) (fun r_5 h_4 => ?_)
      subst h_4
      exact W.iret (v := (xld N j.toNatClampNeg 8)) hx hb hr (fun t9 ht hW => ⟨(xld N j.toNatClampNeg 8), rfl, (by simp [xs_told, cif_t h_1, c_3]), ht⟩) (fun _ h => by cases h) dX1_told_58
    · refine lv_tableIn (tgt := 59) hx hb dX1_told_13 (by omega) (by omega) (by rw [c_3]; rfl) (by decide) ?_
      have c_3 : w = 3 := Int32.toInt_inj.mp c_3
      refine lv_aload_n hx hb dX1_told_59 rfl (lv_at hl 0 rfl) ?_
      refine va_getN (D := D) (ci := 3) (v := .int (N j.toNatClampNeg 2 0)) (C := RX0) (T := TX0) (N := 6) hx hb hts hinX0 hown hK hP (8 + 4 * j.toNatClampNeg) (xL_obj h_1j) rfl 2 (by decide) (va_Nw.use rfl hN.2.2.2.2.1) (fun _ h9 => h9) rfl dX1_told_60 ?_
      exact W.iret (v := (N j.toNatClampNeg 2 0)) hx hb hr (fun t9 ht hW => ⟨(N j.toNatClampNeg 2 0), rfl, (by simp [xs_told, cif_t h_1, c_3]), ht⟩) (fun _ h => by cases h) dX1_told_63

set_option maxHeartbeats 4000000 in
set_option maxRecDepth 100000 in
theorem c_X1_van (l : Launch) (D : va_G) (kI kJ kL : ClassId) (a q : Nat → Nat) (S : Nat → Nat → Int32) (N : Nat → Nat → Nat → Int32) (F : Nat → Option Nat) (B : Nat) (j : Int32) (i : Int32) (hb7 : S 7 0 = nI B) (hB : B ≤ 8) (hF : ∀ j, j < B → F j = some (q (4 * j))) : Met l yX1_van wsX1_van ({ frames := 1, cells := 0, slots := 0, locals := 22 }) (q_rP D (xTY kI kJ kL) (xW kI kL a q S N F B) [.ref (a 0), .int j, .int i]) (vp_Si (fun r => r = xs_van S N j i)) 0 0 (fun _ => False) := by
  refine Met.ofW (cc := cX1_van) (maxL := 4) (ret := (some .int)) (by decide) rfl ?_
  intro p e s m args below meth c s₁ Bd hml hv
  obtain ⟨rfl, hP, hK, hN⟩ := hv
  have hx := Bd.exec
  have hb := Bd.bytes
  have hr := Bd.returns
  have hts := atoms_spec (ws := wsX1_van) Bd.pre
  have hown : s.vm.findClass RX1 = some m.cls := findClass_of_methodNamed Bd.named
  have hlocks := Bd.notSynchronized
  have hl := lv_entry ([.ref (a 0), .int j, .int i]) (n := 4) (Nat.le_of_ble_eq_true rfl)
  rw [lg_entry_eq]
  generalize (lg_sl ([.ref (a 0), .int j, .int i]) ++ List.replicate (4 - (lg_sl ([.ref (a 0), .int j, .int i])).length) Slot.unset).toArray = ls at hl ⊢
  have hl : lv_has ls 4 [(0, .ref (a 0)), (1, .int j), (2, .int i)] := hl
  have hinX0 : ∀ w ∈ u_ws RX0 TX0 6, w ∈ wsX1_van := by decide +kernel
  have hinX1 : ∀ w ∈ u_ws RX1 TX1 9, w ∈ wsX1_van := by decide +kernel
  refine lv_aload_n hx hb dX1_van_0 rfl (lv_at hl 0 rfl) ?_
  refine lv_iload_n hx hb dX1_van_1 rfl (lv_at hl 1 rfl) ?_
  refine va_csq (W.runV (As := [.int j]) (rest := []) ⟨hx, hb, hml, hown, hts⟩ (c_X1_loanOf l D kI kJ kL a q S N F B j hb7 hB hF) (cwV 1 hts gX1_van_X1_loanOf rfl rfl rfl (by decide +kernel) ⟨Nat.le_of_ble_eq_true rfl, Nat.le_of_ble_eq_true rfl⟩) (q_rV (w2 := []) hK hN (by rw [List.append_nil]; exact hP) (va_recv hK hP (ci := 4) (q0 := 0) rfl rfl)) rfl rfl hl.1 rfl (lv_room (Nat.le_of_ble_eq_true rfl)) dX1_van_2 ⟨Nat.le_of_ble_eq_true rfl, Nat.le_of_ble_eq_true rfl⟩) (fun r_2 h_1 => ?_)
  rcases h_1 with ⟨rfl, h_1⟩ | ⟨rfl, h_1, h_1j⟩
  · refine lv_astore_nN (lv' := [(3, .null), (0, .ref (a 0)), (1, .int j), (2, .int i)]) hx hb dX1_van_5 rfl hl (by decide) rfl (fun ls hl => ?_)
    refine lv_aload_nN hx hb dX1_van_6 rfl (lv_at hl 0 rfl) ?_
    refine lv_ifnonnullN hx hb dX1_van_7 ?_
    refine lv_iconst (v := -1) hx hb dX1_van_10 (by decide) ?_
    exact W.iret (v := (-1)) hx hb hr (fun t9 ht hW => ⟨(-1), rfl, (by simp only [xs_van, cif_f h_1]), ht⟩) (fun _ h => by cases h) dX1_van_11
  · refine lv_astore_n (lv' := [(3, .ref (q (4 * j.toNatClampNeg))), (0, .ref (a 0)), (1, .int j), (2, .int i)]) hx hb dX1_van_5 rfl hl (by decide) rfl (fun ls hl => ?_)
    refine lv_aload_n hx hb dX1_van_6 rfl (lv_at hl 0 rfl) ?_
    refine lv_ifnonnull (tgt := 12) hx hb dX1_van_7 (by decide) ?_
    refine lv_iload_n hx hb dX1_van_12 rfl (lv_at hl 3 rfl) ?_
    refine lv_iconst (v := 0) hx hb dX1_van_13 (by decide) ?_
    refine lv_bipush (v := 7) hx hb dX1_van_14 (by decide) ?_
    refine vp_callSi (W.runS (As := [.int i, .int 0, .int 7]) (rest := []) ⟨hx, hb, hml, hown, hts⟩ (c_X1_between l D kI kJ kL i 0 7) (va_cwS 3 hts gX1_van_X1_between rfl rfl rfl (by decide +kernel) ⟨Nat.le_of_ble_eq_true rfl, Nat.le_of_ble_eq_true rfl⟩) (q_rS0 hK hN) rfl rfl hl.1 rfl (lv_room (Nat.le_of_ble_eq_true rfl)) dX1_van_16 ⟨Nat.le_of_ble_eq_true rfl, Nat.le_of_ble_eq_true rfl⟩) (fun r_h_3 h_3 => ?_)
    rcases h_3 with ⟨rfl, h_3⟩ | ⟨rfl, h_3⟩
    · refine lv_if_eq (tgt := 31) hx hb dX1_van_19 (by decide) (fun c_4 => absurd c_4 (by decide)) (fun c_4 => ?_)
      refine lv_aload_n hx hb dX1_van_22 rfl (lv_at hl 0 rfl) ?_
      refine va_getN (D := D) (ci := 3) (v := .ref (q (4 * j.toNatClampNeg + 3))) (C := RX0) (T := TX0) (N := 6) hx hb hts hinX0 hown hK hP (8 + 4 * j.toNatClampNeg) (xL_obj h_1j) rfl 5 (by decide) (va_Nw.use rfl hN.2.2.2.2.2.1) (fun _ h9 => h9) rfl dX1_van_23 ?_
      refine lv_iload_n hx hb dX1_van_26 rfl (lv_at hl 3 rfl) ?_
      refine va_iald (f := N j.toNatClampNeg 5) hx hb hK hP (8 + (4 * j.toNatClampNeg + (2 + 1))) 0 (xL_row h_1j 2 (by decide)) rfl (btw_in h_3 (by decide) (by decide)) dX1_van_27 ?_
      refine lv_goto (tgt := 33) hx hb dX1_van_28 (by decide) ?_
      exact W.iret (v := (N j.toNatClampNeg 5 i.toNatClampNeg)) hx hb hr (fun t9 ht hW => ⟨(N j.toNatClampNeg 5 i.toNatClampNeg), rfl, (by simp only [xs_van, cif_t h_1, cif_t h_3]), ht⟩) (fun _ h => by cases h) dX1_van_33
    · refine lv_if_eq (tgt := 31) hx hb dX1_van_19 (by decide) (fun c_5 => ?_) (fun c_5 => absurd c_5 (by decide))
      refine lv_bipush (v := -5) hx hb dX1_van_31 (by decide) ?_
      exact W.iret (v := (-5)) hx hb hr (fun t9 ht hW => ⟨(-5), rfl, (by simp only [xs_van, cif_t h_1, cif_f h_3]), ht⟩) (fun _ h => by cases h) dX1_van_33

set_option maxHeartbeats 4000000 in
set_option maxRecDepth 100000 in
theorem c_X1_count (l : Launch) (D : va_G) (kI kJ kL : ClassId) (a q : Nat → Nat) (S : Nat → Nat → Int32) (N : Nat → Nat → Nat → Int32) (F : Nat → Option Nat) (B : Nat) (w : Int32) (n : Nat) (hn6 : S 6 0 = nI n) (hn : n ≤ 110) : Met l yX1_count wsX1_count ({ frames := 1, cells := 0, slots := 0, locals := 23 }) (q_rP D (xTY kI kJ kL) (xW kI kL a q S N F B) [.ref (a 0), .int w]) (vp_Si (fun r => r = xs_count S n w)) 0 0 (fun _ => False) := by
  refine Met.ofW (cc := cX1_count) (maxL := 2) (ret := (some .int)) (by decide) rfl ?_
  intro p e s m args below meth c s₁ Bd hml hv
  obtain ⟨rfl, hP, hK, hN⟩ := hv
  have hx := Bd.exec
  have hb := Bd.bytes
  have hr := Bd.returns
  have hts := atoms_spec (ws := wsX1_count) Bd.pre
  have hown : s.vm.findClass RX1 = some m.cls := findClass_of_methodNamed Bd.named
  have hlocks := Bd.notSynchronized
  have hl := lv_entry ([.ref (a 0), .int w]) (n := 2) (Nat.le_of_ble_eq_true rfl)
  rw [lg_entry_eq]
  generalize (lg_sl ([.ref (a 0), .int w]) ++ List.replicate (2 - (lg_sl ([.ref (a 0), .int w])).length) Slot.unset).toArray = ls at hl ⊢
  have hl : lv_has ls 2 [(0, .ref (a 0)), (1, .int w)] := hl
  have hinX1 : ∀ w ∈ u_ws RX1 TX1 9, w ∈ wsX1_count := by decide +kernel
  refine lv_iload_n hx hb dX1_count_0 rfl (lv_at hl 1 rfl) ?_
  rcases (show w.toInt < 0 ∨ 3 < w.toInt ∨ w.toInt = 0 ∨ w.toInt = 1 ∨ w.toInt = 2 ∨ w.toInt = 3 by omega) with c_1 | c_1 | c_1 | c_1 | c_1 | c_1
  · refine lv_tableOut (tgt := 54) hx hb dX1_count_1 (Or.inl c_1) (by decide) ?_
    refine lv_iload_n hx hb dX1_count_54 rfl (lv_at hl 1 rfl) ?_
    refine lv_iconst (v := 4) hx hb dX1_count_55 (by decide) ?_
    refine lv_bipush (v := 8) hx hb dX1_count_56 (by decide) ?_
    refine vp_callSi (W.runS (As := [.int w, .int 4, .int 8]) (rest := []) ⟨hx, hb, hml, hown, hts⟩ (c_X1_between l D kI kJ kL w 4 8) (va_cwS 3 hts gX1_count_X1_between rfl rfl rfl (by decide +kernel) ⟨Nat.le_of_ble_eq_true rfl, Nat.le_of_ble_eq_true rfl⟩) (q_rS0 hK hN) rfl rfl hl.1 rfl (lv_room (Nat.le_of_ble_eq_true rfl)) dX1_count_58 ⟨Nat.le_of_ble_eq_true rfl, Nat.le_of_ble_eq_true rfl⟩) (fun r_h_2 h_2 => ?_)
    rcases h_2 with ⟨rfl, h_2⟩ | ⟨rfl, h_2⟩
    · refine lv_if_eq (tgt := 75) hx hb dX1_count_61 (by decide) (fun c_3 => absurd c_3 (by decide)) (fun c_3 => ?_)
      refine lv_aload_n hx hb dX1_count_64 rfl (lv_at hl 0 rfl) ?_
      refine va_get (D := D) (ci := 4) (v := .ref (a 7)) (C := RX1) (T := TX1) (N := 9) hx hb hts hinX1 hown hK hP 0 rfl rfl 8 (by decide) (hts (.fieldLink RX1 31 "LoanCases" "findings" "[I") (by decide +kernel)) (fun _ h9 => h9) rfl dX1_count_65 ?_
      refine lv_iload_n hx hb dX1_count_68 rfl (lv_at hl 1 rfl) ?_
      refine lv_iconst (v := 3) hx hb dX1_count_69 (by decide) ?_
      refine lv_isub hx hb dX1_count_70 ?_
      refine va_iald (f := S 5) hx hb hK hP 7 0 rfl rfl (btw_sub h_2) dX1_count_71 ?_
      refine lv_goto (tgt := 77) hx hb dX1_count_72 (by decide) ?_
      exact W.iret (v := (S 5 (w - 3).toNatClampNeg)) hx hb hr (fun t9 ht hW => ⟨(S 5 (w - 3).toNatClampNeg), rfl, (by simp [xs_count, cif_t h_2, show ¬ w = 0 from fun h9 => by rw [h9] at c_1; exact absurd c_1 (by decide), show ¬ w = 1 from fun h9 => by rw [h9] at c_1; exact absurd c_1 (by decide), show ¬ w = 2 from fun h9 => by rw [h9] at c_1; exact absurd c_1 (by decide), show ¬ w = 3 from fun h9 => by rw [h9] at c_1; exact absurd c_1 (by decide)]), ht⟩) (fun _ h => by cases h) dX1_count_77
    · refine lv_if_eq (tgt := 75) hx hb dX1_count_61 (by decide) (fun c_4 => ?_) (fun c_4 => absurd c_4 (by decide))
      refine lv_bipush (v := -2) hx hb dX1_count_75 (by decide) ?_
      exact W.iret (v := (-2)) hx hb hr (fun t9 ht hW => ⟨(-2), rfl, (by simp [xs_count, cif_f h_2, show ¬ w = 0 from fun h9 => by rw [h9] at c_1; exact absurd c_1 (by decide), show ¬ w = 1 from fun h9 => by rw [h9] at c_1; exact absurd c_1 (by decide), show ¬ w = 2 from fun h9 => by rw [h9] at c_1; exact absurd c_1 (by decide), show ¬ w = 3 from fun h9 => by rw [h9] at c_1; exact absurd c_1 (by decide)]), ht⟩) (fun _ h => by cases h) dX1_count_77
  · refine lv_tableOut (tgt := 54) hx hb dX1_count_1 (Or.inr c_1) (by decide) ?_
    refine lv_iload_n hx hb dX1_count_54 rfl (lv_at hl 1 rfl) ?_
    refine lv_iconst (v := 4) hx hb dX1_count_55 (by decide) ?_
    refine lv_bipush (v := 8) hx hb dX1_count_56 (by decide) ?_
    refine vp_callSi (W.runS (As := [.int w, .int 4, .int 8]) (rest := []) ⟨hx, hb, hml, hown, hts⟩ (c_X1_between l D kI kJ kL w 4 8) (va_cwS 3 hts gX1_count_X1_between rfl rfl rfl (by decide +kernel) ⟨Nat.le_of_ble_eq_true rfl, Nat.le_of_ble_eq_true rfl⟩) (q_rS0 hK hN) rfl rfl hl.1 rfl (lv_room (Nat.le_of_ble_eq_true rfl)) dX1_count_58 ⟨Nat.le_of_ble_eq_true rfl, Nat.le_of_ble_eq_true rfl⟩) (fun r_h_5 h_5 => ?_)
    rcases h_5 with ⟨rfl, h_5⟩ | ⟨rfl, h_5⟩
    · refine lv_if_eq (tgt := 75) hx hb dX1_count_61 (by decide) (fun c_6 => absurd c_6 (by decide)) (fun c_6 => ?_)
      refine lv_aload_n hx hb dX1_count_64 rfl (lv_at hl 0 rfl) ?_
      refine va_get (D := D) (ci := 4) (v := .ref (a 7)) (C := RX1) (T := TX1) (N := 9) hx hb hts hinX1 hown hK hP 0 rfl rfl 8 (by decide) (hts (.fieldLink RX1 31 "LoanCases" "findings" "[I") (by decide +kernel)) (fun _ h9 => h9) rfl dX1_count_65 ?_
      refine lv_iload_n hx hb dX1_count_68 rfl (lv_at hl 1 rfl) ?_
      refine lv_iconst (v := 3) hx hb dX1_count_69 (by decide) ?_
      refine lv_isub hx hb dX1_count_70 ?_
      refine va_iald (f := S 5) hx hb hK hP 7 0 rfl rfl (btw_sub h_5) dX1_count_71 ?_
      refine lv_goto (tgt := 77) hx hb dX1_count_72 (by decide) ?_
      exact W.iret (v := (S 5 (w - 3).toNatClampNeg)) hx hb hr (fun t9 ht hW => ⟨(S 5 (w - 3).toNatClampNeg), rfl, (by simp [xs_count, cif_t h_5, show ¬ w = 0 from fun h9 => by rw [h9] at c_1; exact absurd c_1 (by decide), show ¬ w = 1 from fun h9 => by rw [h9] at c_1; exact absurd c_1 (by decide), show ¬ w = 2 from fun h9 => by rw [h9] at c_1; exact absurd c_1 (by decide), show ¬ w = 3 from fun h9 => by rw [h9] at c_1; exact absurd c_1 (by decide)]), ht⟩) (fun _ h => by cases h) dX1_count_77
    · refine lv_if_eq (tgt := 75) hx hb dX1_count_61 (by decide) (fun c_7 => ?_) (fun c_7 => absurd c_7 (by decide))
      refine lv_bipush (v := -2) hx hb dX1_count_75 (by decide) ?_
      exact W.iret (v := (-2)) hx hb hr (fun t9 ht hW => ⟨(-2), rfl, (by simp [xs_count, cif_f h_5, show ¬ w = 0 from fun h9 => by rw [h9] at c_1; exact absurd c_1 (by decide), show ¬ w = 1 from fun h9 => by rw [h9] at c_1; exact absurd c_1 (by decide), show ¬ w = 2 from fun h9 => by rw [h9] at c_1; exact absurd c_1 (by decide), show ¬ w = 3 from fun h9 => by rw [h9] at c_1; exact absurd c_1 (by decide)]), ht⟩) (fun _ h => by cases h) dX1_count_77
  · refine lv_tableIn (tgt := 32) hx hb dX1_count_1 (by omega) (by omega) (by rw [c_1]; rfl) (by decide) ?_
    have c_1 : w = 0 := Int32.toInt_inj.mp c_1
    refine lv_aload_n hx hb dX1_count_32 rfl (lv_at hl 0 rfl) ?_
    refine va_get (D := D) (ci := 4) (v := .int (S 6 0)) (C := RX1) (T := TX1) (N := 9) hx hb hts hinX1 hown hK hP 0 rfl rfl 5 (by decide) (hts (.fieldLink RX1 38 "LoanCases" "things" "I") (by decide +kernel)) (fun _ h9 => h9) rfl dX1_count_33 ?_
    exact W.iret (v := (S 6 0)) hx hb hr (fun t9 ht hW => ⟨(S 6 0), rfl, (by simp [xs_count, c_1]), ht⟩) (fun _ h => by cases h) dX1_count_36
  · refine lv_tableIn (tgt := 37) hx hb dX1_count_1 (by omega) (by omega) (by rw [c_1]; rfl) (by decide) ?_
    have c_1 : w = 1 := Int32.toInt_inj.mp c_1
    refine lv_aload_n hx hb dX1_count_37 rfl (lv_at hl 0 rfl) ?_
    refine lv_iconst (v := 0) hx hb dX1_count_38 (by decide) ?_
    refine vp_callSi (W.runV (As := [.int 0]) (rest := []) ⟨hx, hb, hml, hown, hts⟩ (c_X1_countCases l D kI kJ kL a q S N F B 0 n hn6 hn) (cwV 1 hts gX1_count_X1_countCases rfl rfl rfl (by decide +kernel) ⟨Nat.le_of_ble_eq_true rfl, Nat.le_of_ble_eq_true rfl⟩) (q_rV (w2 := []) hK hN (by rw [List.append_nil]; exact hP) (va_recv hK hP (ci := 4) (q0 := 0) rfl rfl)) rfl rfl hl.1 rfl (lv_room (Nat.le_of_ble_eq_true rfl)) dX1_count_39 ⟨Nat.le_of_ble_eq_true rfl, Nat.le_of_ble_eq_true rfl⟩) (fun r_9 h_8 => ?_)
    subst h_8
    exact W.iret (v := (xcc S 0 n)) hx hb hr (fun t9 ht hW => ⟨(xcc S 0 n), rfl, (by simp [xs_count, c_1]), ht⟩) (fun _ h => by cases h) dX1_count_42
  · refine lv_tableIn (tgt := 43) hx hb dX1_count_1 (by omega) (by omega) (by rw [c_1]; rfl) (by decide) ?_
    have c_1 : w = 2 := Int32.toInt_inj.mp c_1
    refine lv_aload_n hx hb dX1_count_43 rfl (lv_at hl 0 rfl) ?_
    refine lv_iconst (v := 1) hx hb dX1_count_44 (by decide) ?_
    refine vp_callSi (W.runV (As := [.int 1]) (rest := []) ⟨hx, hb, hml, hown, hts⟩ (c_X1_countCases l D kI kJ kL a q S N F B 1 n hn6 hn) (cwV 1 hts gX1_count_X1_countCases rfl rfl rfl (by decide +kernel) ⟨Nat.le_of_ble_eq_true rfl, Nat.le_of_ble_eq_true rfl⟩) (q_rV (w2 := []) hK hN (by rw [List.append_nil]; exact hP) (va_recv hK hP (ci := 4) (q0 := 0) rfl rfl)) rfl rfl hl.1 rfl (lv_room (Nat.le_of_ble_eq_true rfl)) dX1_count_45 ⟨Nat.le_of_ble_eq_true rfl, Nat.le_of_ble_eq_true rfl⟩) (fun r_11 h_10 => ?_)
    subst h_10
    exact W.iret (v := (xcc S 1 n)) hx hb hr (fun t9 ht hW => ⟨(xcc S 1 n), rfl, (by simp [xs_count, c_1]), ht⟩) (fun _ h => by cases h) dX1_count_48
  · refine lv_tableIn (tgt := 49) hx hb dX1_count_1 (by omega) (by omega) (by rw [c_1]; rfl) (by decide) ?_
    have c_1 : w = 3 := Int32.toInt_inj.mp c_1
    refine lv_aload_n hx hb dX1_count_49 rfl (lv_at hl 0 rfl) ?_
    refine va_get (D := D) (ci := 4) (v := .int (S 7 0)) (C := RX1) (T := TX1) (N := 9) hx hb hts hinX1 hown hK hP 0 rfl rfl 7 (by decide) (hts (.fieldLink RX1 99 "LoanCases" "begun" "I") (by decide +kernel)) (fun _ h9 => h9) rfl dX1_count_50 ?_
    exact W.iret (v := (S 7 0)) hx hb hr (fun t9 ht hW => ⟨(S 7 0), rfl, (by simp [xs_count, c_1]), ht⟩) (fun _ h => by cases h) dX1_count_53

set_option maxHeartbeats 4000000 in
set_option maxRecDepth 100000 in
theorem c_X1_found (l : Launch) (D : va_G) (kI kJ kL : ClassId) (a q : Nat → Nat) (S : Nat → Nat → Int32) (N : Nat → Nat → Nat → Int32) (F : Nat → Option Nat) (B : Nat) (sz : Nat) (f : Int32) (hf6 : vp_in f 6) : Met l yX1_found wsX1_found ({ frames := 0, cells := 0, slots := 0, locals := 0 }) (q_wP D (xTY kI kJ kL) (xW kI kL a q S N F B) sz [.ref (a 0), .int f]) (va_Qi (fun r (u : (Nat → Nat → Int32) × (Nat → Nat → Nat → Int32)) => r = -30 - f ∧ u = (xfd S f, N)) (q_wB D (xTY kI kJ kL) (xW kI kL a q S N F B) sz (fun u : (Nat → Nat → Int32) × (Nat → Nat → Nat → Int32) => xW kI kL a q u.1 u.2 F B)) (va_A (xW kI kL a q S N F B) sz)) 0 0 (va_A (xW kI kL a q S N F B) sz) := by
  refine Met.ofW (cc := cX1_found) (maxL := 2) (ret := (some .int)) (by decide) rfl ?_
  intro p e s m args below meth c s₁ Bd hml hv
  obtain ⟨rfl, hsz, hP, hK, hD0, hN⟩ := hv
  have hx := Bd.exec
  have hb := Bd.bytes
  have hr := Bd.returns
  have hts := atoms_spec (ws := wsX1_found) Bd.pre
  have hown : s.vm.findClass RX1 = some m.cls := findClass_of_methodNamed Bd.named
  have hlocks := Bd.notSynchronized
  subst hsz
  have hD := hD0.self (sz := s.heap.size)
  generalize hAe : va_A (xW kI kL a q S N F B) s.heap.size = A at hD ⊢
  have hA : ∀ q : Nat, s.heap.size ≤ q → A q := fun q h => by rw [← hAe]; exact Or.inr h
  have hS : va_S A s.heap s.heap [] := va_S.rf
  have hl := lv_entry ([.ref (a 0), .int f]) (n := 2) (Nat.le_of_ble_eq_true rfl)
  rw [lg_entry_eq]
  generalize (lg_sl ([.ref (a 0), .int f]) ++ List.replicate (2 - (lg_sl ([.ref (a 0), .int f])).length) Slot.unset).toArray = ls at hl ⊢
  have hl : lv_has ls 2 [(0, .ref (a 0)), (1, .int f)] := hl
  have hinX1 : ∀ w ∈ u_ws RX1 TX1 9, w ∈ wsX1_found := by decide +kernel
  refine lv_aload_n hx hb dX1_found_0 rfl (lv_at hl 0 rfl) ?_
  refine va_get (D := D) (ci := 4) (v := .ref (a 7)) (C := RX1) (T := TX1) (N := 9) hx hb hts hinX1 hown hK hP 0 rfl rfl 8 (by decide) (hts (.fieldLink RX1 31 "LoanCases" "findings" "[I") (by decide +kernel)) (fun _ h9 => h9) rfl dX1_found_1 ?_
  refine lv_iload_n hx hb dX1_found_4 rfl (lv_at hl 1 rfl) ?_
  refine lv_dup2_11 hx hb dX1_found_5 rfl rfl ?_
  refine va_iald (f := S 5) hx hb hK hP 7 0 rfl rfl hf6 dX1_found_6 ?_
  refine lv_iconst (v := 1) hx hb dX1_found_7 (by decide) ?_
  refine lv_iadd hx hb dX1_found_8 ?_
  refine va_iast hx hb hK hP hD hS 7 0 rfl rfl hf6 dX1_found_9 (fun H locs hP hD hS => ?_)
  have hP : va_P D vwCl (xW kI kL a q (sU S 5 f.toNatClampNeg ((S 5 f.toNatClampNeg) + 1)) N F B) H := hP
  have hD : va_D A (xW kI kL a q (sU S 5 f.toNatClampNeg ((S 5 f.toNatClampNeg) + 1)) N F B) := hD
  refine lv_bipush (v := -30) hx hb dX1_found_10 (by decide) ?_
  refine lv_iload_n hx hb dX1_found_12 rfl (lv_at hl 1 rfl) ?_
  refine lv_isub hx hb dX1_found_13 ?_
  exact W.iret (v := ((-30) - f)) hx hb hr (fun t9 ht hW => ⟨⟨((-30) - f), ((sU S 5 f.toNatClampNeg ((S 5 f.toNatClampNeg) + 1)), N), rfl, ⟨rfl, rfl⟩, by rw [ht]; exact hP, va_K.moved hW.alike hK, by rw [hAe]; exact hD⟩, hS.F ht⟩) hS.2.2 dX1_found_14
