set_option maxHeartbeats 4000000 in
set_option maxRecDepth 100000 in
theorem c_X1_between (l : Launch) (D : va_G) (kI kJ kL : ClassId) (x : Int32) (lo : Int32) (hi : Int32) : Met l yX1_between wsX1_between ({ frames := 0, cells := 0, slots := 0, locals := 0 }) (q_rP D (xTY kI kJ kL) ([]) [.int x, .int lo, .int hi]) (vp_Si (fun r => (r = 1 ∧ btw x lo hi) ∨ (r = 0 ∧ ¬ btw x lo hi))) 0 0 (fun _ => False) := by
  refine Met.ofW (cc := cX1_between) (maxL := 3) (ret := (some .boolean)) (by decide) rfl ?_
  intro p e s m args below meth c s₁ Bd hml hv
  obtain ⟨rfl, hP, hK, hN⟩ := hv
  have hx := Bd.exec
  have hb := Bd.bytes
  have hr := Bd.returns
  have hts := atoms_spec (ws := wsX1_between) Bd.pre
  have hown : s.vm.findClass RX1 = some m.cls := findClass_of_methodNamed Bd.named
  have hlocks := Bd.notSynchronized
  have hl := lv_entry ([.int x, .int lo, .int hi]) (n := 3) (Nat.le_of_ble_eq_true rfl)
  rw [lg_entry_eq]
  generalize (lg_sl ([.int x, .int lo, .int hi]) ++ List.replicate (3 - (lg_sl ([.int x, .int lo, .int hi])).length) Slot.unset).toArray = ls at hl ⊢
  have hl : lv_has ls 3 [(0, .int x), (1, .int lo), (2, .int hi)] := hl
  refine lv_iload_n hx hb dX1_between_0 rfl (lv_at hl 0 rfl) ?_
  refine lv_iload_n hx hb dX1_between_1 rfl (lv_at hl 1 rfl) ?_
  refine lv_icmp_lt (tgt := 14) hx hb dX1_between_2 (by decide) (fun c_1 => ?_) (fun c_1 => ?_)
  · refine lv_iconst (v := 0) hx hb dX1_between_14 (by decide) ?_
    exact W.zret (v := 0) hx hb hr rfl (fun t9 ht hW => ⟨0, rfl, (Or.inr ⟨rfl, (fun h9 => h9.1 c_1)⟩), ht⟩) (fun _ h => by cases h) dX1_between_15
  · refine lv_iload_n hx hb dX1_between_5 rfl (lv_at hl 0 rfl) ?_
    refine lv_iload_n hx hb dX1_between_6 rfl (lv_at hl 2 rfl) ?_
    refine lv_icmp_gt (tgt := 14) hx hb dX1_between_7 (by decide) (fun c_2 => ?_) (fun c_2 => ?_)
    · refine lv_iconst (v := 0) hx hb dX1_between_14 (by decide) ?_
      exact W.zret (v := 0) hx hb hr rfl (fun t9 ht hW => ⟨0, rfl, (Or.inr ⟨rfl, (fun h9 => h9.2 c_2)⟩), ht⟩) (fun _ h => by cases h) dX1_between_15
    · refine lv_iconst (v := 1) hx hb dX1_between_10 (by decide) ?_
      refine lv_goto (tgt := 15) hx hb dX1_between_11 (by decide) ?_
      exact W.zret (v := 1) hx hb hr rfl (fun t9 ht hW => ⟨1, rfl, (Or.inl ⟨rfl, ⟨c_1, c_2⟩⟩), ht⟩) (fun _ h => by cases h) dX1_between_15

set_option maxHeartbeats 4000000 in
set_option maxRecDepth 100000 in
theorem c_X1_isThing (l : Launch) (D : va_G) (kI kJ kL : ClassId) (a q : Nat → Nat) (S : Nat → Nat → Int32) (N : Nat → Nat → Nat → Int32) (F : Nat → Option Nat) (B : Nat) (t : Int32) : Met l yX1_isThing wsX1_isThing ({ frames := 0, cells := 0, slots := 0, locals := 0 }) (q_rP D (xTY kI kJ kL) (xW kI kL a q S N F B) [.ref (a 0), .int t]) (vp_Si (fun r => (r = 1 ∧ xT S t) ∨ (r = 0 ∧ ¬ xT S t))) 0 0 (fun _ => False) := by
  refine Met.ofW (cc := cX1_isThing) (maxL := 2) (ret := (some .boolean)) (by decide) rfl ?_
  intro p e s m args below meth c s₁ Bd hml hv
  obtain ⟨rfl, hP, hK, hN⟩ := hv
  have hx := Bd.exec
  have hb := Bd.bytes
  have hr := Bd.returns
  have hts := atoms_spec (ws := wsX1_isThing) Bd.pre
  have hown : s.vm.findClass RX1 = some m.cls := findClass_of_methodNamed Bd.named
  have hlocks := Bd.notSynchronized
  have hl := lv_entry ([.ref (a 0), .int t]) (n := 2) (Nat.le_of_ble_eq_true rfl)
  rw [lg_entry_eq]
  generalize (lg_sl ([.ref (a 0), .int t]) ++ List.replicate (2 - (lg_sl ([.ref (a 0), .int t])).length) Slot.unset).toArray = ls at hl ⊢
  have hl : lv_has ls 2 [(0, .ref (a 0)), (1, .int t)] := hl
  have hinX1 : ∀ w ∈ u_ws RX1 TX1 9, w ∈ wsX1_isThing := by decide +kernel
  refine lv_iload_n hx hb dX1_isThing_0 rfl (lv_at hl 1 rfl) ?_
  refine lv_if_lt (tgt := 16) hx hb dX1_isThing_1 (by decide) (fun c_1 => ?_) (fun c_1 => ?_)
  · refine lv_iconst (v := 0) hx hb dX1_isThing_16 (by decide) ?_
    exact W.zret (v := 0) hx hb hr rfl (fun t9 ht hW => ⟨0, rfl, (Or.inr ⟨rfl, (fun h9 => h9.1 c_1)⟩), ht⟩) (fun _ h => by cases h) dX1_isThing_17
  · refine lv_iload_n hx hb dX1_isThing_4 rfl (lv_at hl 1 rfl) ?_
    refine lv_aload_n hx hb dX1_isThing_5 rfl (lv_at hl 0 rfl) ?_
    refine va_get (D := D) (ci := 4) (v := .int (S 6 0)) (C := RX1) (T := TX1) (N := 9) hx hb hts hinX1 hown hK hP 0 rfl rfl 5 (by decide) (hts (.fieldLink RX1 38 "LoanCases" "things" "I") (by decide +kernel)) (fun _ h9 => h9) rfl dX1_isThing_6 ?_
    refine lv_icmp_ge (tgt := 16) hx hb dX1_isThing_9 (by decide) (fun c_2 => ?_) (fun c_2 => ?_)
    · refine lv_iconst (v := 0) hx hb dX1_isThing_16 (by decide) ?_
      exact W.zret (v := 0) hx hb hr rfl (fun t9 ht hW => ⟨0, rfl, (Or.inr ⟨rfl, (fun h9 => h9.2 c_2)⟩), ht⟩) (fun _ h => by cases h) dX1_isThing_17
    · refine lv_iconst (v := 1) hx hb dX1_isThing_12 (by decide) ?_
      refine lv_goto (tgt := 17) hx hb dX1_isThing_13 (by decide) ?_
      exact W.zret (v := 1) hx hb hr rfl (fun t9 ht hW => ⟨1, rfl, (Or.inl ⟨rfl, ⟨c_1, c_2⟩⟩), ht⟩) (fun _ h => by cases h) dX1_isThing_17

set_option maxHeartbeats 4000000 in
set_option maxRecDepth 100000 in
theorem c_X1_isThingOrNone (l : Launch) (D : va_G) (kI kJ kL : ClassId) (a q : Nat → Nat) (S : Nat → Nat → Int32) (N : Nat → Nat → Nat → Int32) (F : Nat → Option Nat) (B : Nat) (t : Int32) : Met l yX1_isThingOrNone wsX1_isThingOrNone ({ frames := 1, cells := 0, slots := 0, locals := 21 }) (q_rP D (xTY kI kJ kL) (xW kI kL a q S N F B) [.ref (a 0), .int t]) (vp_Si (fun r => (r = 1 ∧ xTN S t) ∨ (r = 0 ∧ ¬ xTN S t))) 0 0 (fun _ => False) := by
  refine Met.ofW (cc := cX1_isThingOrNone) (maxL := 2) (ret := (some .boolean)) (by decide) rfl ?_
  intro p e s m args below meth c s₁ Bd hml hv
  obtain ⟨rfl, hP, hK, hN⟩ := hv
  have hx := Bd.exec
  have hb := Bd.bytes
  have hr := Bd.returns
  have hts := atoms_spec (ws := wsX1_isThingOrNone) Bd.pre
  have hown : s.vm.findClass RX1 = some m.cls := findClass_of_methodNamed Bd.named
  have hlocks := Bd.notSynchronized
  have hl := lv_entry ([.ref (a 0), .int t]) (n := 2) (Nat.le_of_ble_eq_true rfl)
  rw [lg_entry_eq]
  generalize (lg_sl ([.ref (a 0), .int t]) ++ List.replicate (2 - (lg_sl ([.ref (a 0), .int t])).length) Slot.unset).toArray = ls at hl ⊢
  have hl : lv_has ls 2 [(0, .ref (a 0)), (1, .int t)] := hl
  have hinX1 : ∀ w ∈ u_ws RX1 TX1 9, w ∈ wsX1_isThingOrNone := by decide +kernel
  refine lv_iload_n hx hb dX1_isThingOrNone_0 rfl (lv_at hl 1 rfl) ?_
  refine lv_bipush (v := -5) hx hb dX1_isThingOrNone_1 (by decide) ?_
  refine lv_icmp_eq (tgt := 14) hx hb dX1_isThingOrNone_3 (by decide) (fun c_1 => ?_) (fun c_1 => ?_)
  · refine lv_iconst (v := 1) hx hb dX1_isThingOrNone_14 (by decide) ?_
    refine lv_goto (tgt := 19) hx hb dX1_isThingOrNone_15 (by decide) ?_
    exact W.zret (v := 1) hx hb hr rfl (fun t9 ht hW => ⟨1, rfl, (Or.inl ⟨rfl, Or.inl c_1⟩), ht⟩) (fun _ h => by cases h) dX1_isThingOrNone_19
  · refine lv_aload_n hx hb dX1_isThingOrNone_6 rfl (lv_at hl 0 rfl) ?_
    refine lv_iload_n hx hb dX1_isThingOrNone_7 rfl (lv_at hl 1 rfl) ?_
    refine vp_callSi (W.runV (As := [.int t]) (rest := []) ⟨hx, hb, hml, hown, hts⟩ (c_X1_isThing l D kI kJ kL a q S N F B t) (cwV 1 hts gX1_isThingOrNone_X1_isThing rfl rfl rfl (by decide +kernel) ⟨Nat.le_of_ble_eq_true rfl, Nat.le_of_ble_eq_true rfl⟩) (q_rV (w2 := []) hK hN (by rw [List.append_nil]; exact hP) (va_recv hK hP (ci := 4) (q0 := 0) rfl rfl)) rfl rfl hl.1 rfl (lv_room (Nat.le_of_ble_eq_true rfl)) dX1_isThingOrNone_8 ⟨Nat.le_of_ble_eq_true rfl, Nat.le_of_ble_eq_true rfl⟩) (fun r_h_2 h_2 => ?_)
    rcases h_2 with ⟨rfl, h_2⟩ | ⟨rfl, h_2⟩
    · refine lv_if_eq (tgt := 18) hx hb dX1_isThingOrNone_11 (by decide) (fun c_3 => absurd c_3 (by decide)) (fun c_3 => ?_)
      refine lv_iconst (v := 1) hx hb dX1_isThingOrNone_14 (by decide) ?_
      refine lv_goto (tgt := 19) hx hb dX1_isThingOrNone_15 (by decide) ?_
      exact W.zret (v := 1) hx hb hr rfl (fun t9 ht hW => ⟨1, rfl, (Or.inl ⟨rfl, Or.inr h_2⟩), ht⟩) (fun _ h => by cases h) dX1_isThingOrNone_19
    · refine lv_if_eq (tgt := 18) hx hb dX1_isThingOrNone_11 (by decide) (fun c_4 => ?_) (fun c_4 => absurd c_4 (by decide))
      refine lv_iconst (v := 0) hx hb dX1_isThingOrNone_18 (by decide) ?_
      exact W.zret (v := 0) hx hb hr rfl (fun t9 ht hW => ⟨0, rfl, (Or.inr ⟨rfl, (fun h9 => h9.elim c_1 h_2)⟩), ht⟩) (fun _ h => by cases h) dX1_isThingOrNone_19

set_option maxHeartbeats 4000000 in
set_option maxRecDepth 100000 in
theorem c_X1_isCase (l : Launch) (D : va_G) (kI kJ kL : ClassId) (a q : Nat → Nat) (S : Nat → Nat → Int32) (N : Nat → Nat → Nat → Int32) (F : Nat → Option Nat) (B : Nat) (t : Int32) (hn : (S 6 0).toInt ≤ 110) : Met l yX1_isCase wsX1_isCase ({ frames := 1, cells := 0, slots := 0, locals := 21 }) (q_rP D (xTY kI kJ kL) (xW kI kL a q S N F B) [.ref (a 0), .int t]) (vp_Si (fun r => (r = 1 ∧ xK S t) ∨ (r = 0 ∧ ¬ xK S t))) 0 0 (fun _ => False) := by
  refine Met.ofW (cc := cX1_isCase) (maxL := 2) (ret := (some .boolean)) (by decide) rfl ?_
  intro p e s m args below meth c s₁ Bd hml hv
  obtain ⟨rfl, hP, hK, hN⟩ := hv
  have hx := Bd.exec
  have hb := Bd.bytes
  have hr := Bd.returns
  have hts := atoms_spec (ws := wsX1_isCase) Bd.pre
  have hown : s.vm.findClass RX1 = some m.cls := findClass_of_methodNamed Bd.named
  have hlocks := Bd.notSynchronized
  have hl := lv_entry ([.ref (a 0), .int t]) (n := 2) (Nat.le_of_ble_eq_true rfl)
  rw [lg_entry_eq]
  generalize (lg_sl ([.ref (a 0), .int t]) ++ List.replicate (2 - (lg_sl ([.ref (a 0), .int t])).length) Slot.unset).toArray = ls at hl ⊢
  have hl : lv_has ls 2 [(0, .ref (a 0)), (1, .int t)] := hl
  have hinX1 : ∀ w ∈ u_ws RX1 TX1 9, w ∈ wsX1_isCase := by decide +kernel
  refine lv_aload_n hx hb dX1_isCase_0 rfl (lv_at hl 0 rfl) ?_
  refine lv_iload_n hx hb dX1_isCase_1 rfl (lv_at hl 1 rfl) ?_
  refine vp_callSi (W.runV (As := [.int t]) (rest := []) ⟨hx, hb, hml, hown, hts⟩ (c_X1_isThing l D kI kJ kL a q S N F B t) (cwV 1 hts gX1_isCase_X1_isThing rfl rfl rfl (by decide +kernel) ⟨Nat.le_of_ble_eq_true rfl, Nat.le_of_ble_eq_true rfl⟩) (q_rV (w2 := []) hK hN (by rw [List.append_nil]; exact hP) (va_recv hK hP (ci := 4) (q0 := 0) rfl rfl)) rfl rfl hl.1 rfl (lv_room (Nat.le_of_ble_eq_true rfl)) dX1_isCase_2 ⟨Nat.le_of_ble_eq_true rfl, Nat.le_of_ble_eq_true rfl⟩) (fun r_h_1 h_1 => ?_)
  rcases h_1 with ⟨rfl, h_1⟩ | ⟨rfl, h_1⟩
  · refine lv_if_eq (tgt := 23) hx hb dX1_isCase_5 (by decide) (fun c_2 => absurd c_2 (by decide)) (fun c_2 => ?_)
    refine lv_aload_n hx hb dX1_isCase_8 rfl (lv_at hl 0 rfl) ?_
    refine va_get (D := D) (ci := 4) (v := .ref (a 1)) (C := RX1) (T := TX1) (N := 9) hx hb hts hinX1 hown hK hP 0 rfl rfl 0 (by decide) (hts (.fieldLink RX1 9 "LoanCases" "forms" "[I") (by decide +kernel)) (fun _ h9 => h9) rfl dX1_isCase_9 ?_
    refine lv_iload_n hx hb dX1_isCase_12 rfl (lv_at hl 1 rfl) ?_
    refine va_iald (f := S 0) hx hb hK hP 1 0 rfl rfl (xT_in hn h_1) dX1_isCase_13 ?_
    refine lv_bipush (v := 18) hx hb dX1_isCase_14 (by decide) ?_
    refine lv_icmp_ne (tgt := 23) hx hb dX1_isCase_16 (by decide) (fun c_3 => ?_) (fun c_3 => ?_)
    · refine lv_iconst (v := 0) hx hb dX1_isCase_23 (by decide) ?_
      exact W.zret (v := 0) hx hb hr rfl (fun t9 ht hW => ⟨0, rfl, (Or.inr ⟨rfl, (fun h9 => c_3 h9.2)⟩), ht⟩) (fun _ h => by cases h) dX1_isCase_24
    · refine lv_iconst (v := 1) hx hb dX1_isCase_19 (by decide) ?_
      refine lv_goto (tgt := 24) hx hb dX1_isCase_20 (by decide) ?_
      exact W.zret (v := 1) hx hb hr rfl (fun t9 ht hW => ⟨1, rfl, (Or.inl ⟨rfl, ⟨h_1, c_3⟩⟩), ht⟩) (fun _ h => by cases h) dX1_isCase_24
  · refine lv_if_eq (tgt := 23) hx hb dX1_isCase_5 (by decide) (fun c_4 => ?_) (fun c_4 => absurd c_4 (by decide))
    refine lv_iconst (v := 0) hx hb dX1_isCase_23 (by decide) ?_
    exact W.zret (v := 0) hx hb hr rfl (fun t9 ht hW => ⟨0, rfl, (Or.inr ⟨rfl, (fun h9 => h_1 h9.1)⟩), ht⟩) (fun _ h => by cases h) dX1_isCase_24

set_option maxHeartbeats 4000000 in
set_option maxRecDepth 100000 in
theorem c_X1_hasPlace (l : Launch) (D : va_G) (kI kJ kL : ClassId) (a q : Nat → Nat) (S : Nat → Nat → Int32) (N : Nat → Nat → Nat → Int32) (F : Nat → Option Nat) (B : Nat) (t : Int32) (i : Int32) (ht : vp_in t 110) : Met l yX1_hasPlace wsX1_hasPlace ({ frames := 0, cells := 0, slots := 0, locals := 0 }) (q_rP D (xTY kI kJ kL) (xW kI kL a q S N F B) [.ref (a 0), .int t, .int i]) (vp_Si (fun r => (r = 1 ∧ xPl S t i) ∨ (r = 0 ∧ ¬ xPl S t i))) 0 0 (fun _ => False) := by
  refine Met.ofW (cc := cX1_hasPlace) (maxL := 3) (ret := (some .boolean)) (by decide) rfl ?_
  intro p e s m args below meth c s₁ Bd hml hv
  obtain ⟨rfl, hP, hK, hN⟩ := hv
  have hx := Bd.exec
  have hb := Bd.bytes
  have hr := Bd.returns
  have hts := atoms_spec (ws := wsX1_hasPlace) Bd.pre
  have hown : s.vm.findClass RX1 = some m.cls := findClass_of_methodNamed Bd.named
  have hlocks := Bd.notSynchronized
  have hl := lv_entry ([.ref (a 0), .int t, .int i]) (n := 3) (Nat.le_of_ble_eq_true rfl)
  rw [lg_entry_eq]
  generalize (lg_sl ([.ref (a 0), .int t, .int i]) ++ List.replicate (3 - (lg_sl ([.ref (a 0), .int t, .int i])).length) Slot.unset).toArray = ls at hl ⊢
  have hl : lv_has ls 3 [(0, .ref (a 0)), (1, .int t), (2, .int i)] := hl
  have hinX1 : ∀ w ∈ u_ws RX1 TX1 9, w ∈ wsX1_hasPlace := by decide +kernel
  refine lv_iload_n hx hb dX1_hasPlace_0 rfl (lv_at hl 2 rfl) ?_
  refine lv_if_lt (tgt := 18) hx hb dX1_hasPlace_1 (by decide) (fun c_1 => ?_) (fun c_1 => ?_)
  · refine lv_iconst (v := 0) hx hb dX1_hasPlace_18 (by decide) ?_
    exact W.zret (v := 0) hx hb hr rfl (fun t9 ht hW => ⟨0, rfl, (Or.inr ⟨rfl, (fun h9 => h9.1 c_1)⟩), ht⟩) (fun _ h => by cases h) dX1_hasPlace_19
  · refine lv_iload_n hx hb dX1_hasPlace_4 rfl (lv_at hl 2 rfl) ?_
    refine lv_aload_n hx hb dX1_hasPlace_5 rfl (lv_at hl 0 rfl) ?_
    refine va_get (D := D) (ci := 4) (v := .ref (a 3)) (C := RX1) (T := TX1) (N := 9) hx hb hts hinX1 hown hK hP 0 rfl rfl 2 (by decide) (hts (.fieldLink RX1 16 "LoanCases" "sizes" "[I") (by decide +kernel)) (fun _ h9 => h9) rfl dX1_hasPlace_6 ?_
    refine lv_iload_n hx hb dX1_hasPlace_9 rfl (lv_at hl 1 rfl) ?_
    refine va_iald (f := S 2) hx hb hK hP 3 0 rfl rfl ht dX1_hasPlace_10 ?_
    refine lv_icmp_ge (tgt := 18) hx hb dX1_hasPlace_11 (by decide) (fun c_2 => ?_) (fun c_2 => ?_)
    · refine lv_iconst (v := 0) hx hb dX1_hasPlace_18 (by decide) ?_
      exact W.zret (v := 0) hx hb hr rfl (fun t9 ht hW => ⟨0, rfl, (Or.inr ⟨rfl, (fun h9 => h9.2 c_2)⟩), ht⟩) (fun _ h => by cases h) dX1_hasPlace_19
    · refine lv_iconst (v := 1) hx hb dX1_hasPlace_14 (by decide) ?_
      refine lv_goto (tgt := 19) hx hb dX1_hasPlace_15 (by decide) ?_
      exact W.zret (v := 1) hx hb hr rfl (fun t9 ht hW => ⟨1, rfl, (Or.inl ⟨rfl, ⟨c_1, c_2⟩⟩), ht⟩) (fun _ h => by cases h) dX1_hasPlace_19

set_option maxHeartbeats 4000000 in
set_option maxRecDepth 100000 in
theorem c_X1_formIs (l : Launch) (D : va_G) (kI kJ kL : ClassId) (f : Int32) (k : Int32) : Met l yX1_formIs wsX1_formIs ({ frames := 0, cells := 0, slots := 0, locals := 0 }) (q_rP D (xTY kI kJ kL) ([]) [.int f, .int k]) (vp_Si (fun r => (r = 1 ∧ fIs f k) ∨ (r = 0 ∧ ¬ fIs f k))) 0 0 (fun _ => False) := by
  refine Met.ofW (cc := cX1_formIs) (maxL := 2) (ret := (some .boolean)) (by decide) rfl ?_
  intro p e s m args below meth c s₁ Bd hml hv
  obtain ⟨rfl, hP, hK, hN⟩ := hv
  have hx := Bd.exec
  have hb := Bd.bytes
  have hr := Bd.returns
  have hts := atoms_spec (ws := wsX1_formIs) Bd.pre
  have hown : s.vm.findClass RX1 = some m.cls := findClass_of_methodNamed Bd.named
  have hlocks := Bd.notSynchronized
  have hl := lv_entry ([.int f, .int k]) (n := 2) (Nat.le_of_ble_eq_true rfl)
  rw [lg_entry_eq]
  generalize (lg_sl ([.int f, .int k]) ++ List.replicate (2 - (lg_sl ([.int f, .int k])).length) Slot.unset).toArray = ls at hl ⊢
  have hl : lv_has ls 2 [(0, .int f), (1, .int k)] := hl
  refine lv_iload_n hx hb dX1_formIs_0 rfl (lv_at hl 1 rfl) ?_
  refine lv_iload_n hx hb dX1_formIs_1 rfl (lv_at hl 0 rfl) ?_
  refine lv_icmp_eq (tgt := 11) hx hb dX1_formIs_2 (by decide) (fun c_1 => ?_) (fun c_1 => ?_)
  · refine lv_iconst (v := 1) hx hb dX1_formIs_11 (by decide) ?_
    exact W.zret (v := 1) hx hb hr rfl (fun t9 ht hW => ⟨1, rfl, (by
        exact Or.inl ⟨rfl, by simp [fIs, c_1]⟩), ht⟩) (fun _ h => by cases h) dX1_formIs_12
  · refine lv_iload_n hx hb dX1_formIs_5 rfl (lv_at hl 1 rfl) ?_
    refine lv_bipush (v := 20) hx hb dX1_formIs_6 (by decide) ?_
    refine lv_icmp_ne (tgt := 13) hx hb dX1_formIs_8 (by decide) (fun c_2 => ?_) (fun c_2 => ?_)
    · refine lv_iload_n hx hb dX1_formIs_13 rfl (lv_at hl 0 rfl) ?_
      rcases (show f.toInt < 1 ∨ 13 < f.toInt ∨ f.toInt = 1 ∨ f.toInt = 2 ∨ f.toInt = 3 ∨ f.toInt = 4 ∨ f.toInt = 5 ∨ f.toInt = 6 ∨ f.toInt = 7 ∨ f.toInt = 8 ∨ f.toInt = 9 ∨ f.toInt = 10 ∨ f.toInt = 11 ∨ f.toInt = 12 ∨ f.toInt = 13 by omega) with c_3 | c_3 | c_3 | c_3 | c_3 | c_3 | c_3 | c_3 | c_3 | c_3 | c_3 | c_3 | c_3 | c_3 | c_3
      · refine lv_tableOut (tgt := 159) hx hb dX1_formIs_14 (Or.inl c_3) (by decide) ?_
        refine lv_iconst (v := 0) hx hb dX1_formIs_159 (by decide) ?_
        exact W.zret (v := 0) hx hb hr rfl (fun t9 ht hW => ⟨0, rfl, (by
            have n1 : ¬ f = 1 := fun h9 => by rw [h9] at c_3; exact absurd c_3 (by decide)
            have n2 : ¬ f = 2 := fun h9 => by rw [h9] at c_3; exact absurd c_3 (by decide)
            have n3 : ¬ f = 3 := fun h9 => by rw [h9] at c_3; exact absurd c_3 (by decide)
            have n4 : ¬ f = 4 := fun h9 => by rw [h9] at c_3; exact absurd c_3 (by decide)
            have n11 : ¬ f = 11 := fun h9 => by rw [h9] at c_3; exact absurd c_3 (by decide)
            have n12 : ¬ f = 12 := fun h9 => by rw [h9] at c_3; exact absurd c_3 (by decide)
            have n13 : ¬ f = 13 := fun h9 => by rw [h9] at c_3; exact absurd c_3 (by decide)
            exact Or.inr ⟨rfl, by simp [fIs, c_1, c_2, n1, n2, n3, n4, n11, n12, n13]⟩), ht⟩) (fun _ h => by cases h) dX1_formIs_160
      · refine lv_tableOut (tgt := 159) hx hb dX1_formIs_14 (Or.inr c_3) (by decide) ?_
        refine lv_iconst (v := 0) hx hb dX1_formIs_159 (by decide) ?_
        exact W.zret (v := 0) hx hb hr rfl (fun t9 ht hW => ⟨0, rfl, (by
            have n1 : ¬ f = 1 := fun h9 => by rw [h9] at c_3; exact absurd c_3 (by decide)
            have n2 : ¬ f = 2 := fun h9 => by rw [h9] at c_3; exact absurd c_3 (by decide)
            have n3 : ¬ f = 3 := fun h9 => by rw [h9] at c_3; exact absurd c_3 (by decide)
            have n4 : ¬ f = 4 := fun h9 => by rw [h9] at c_3; exact absurd c_3 (by decide)
            have n11 : ¬ f = 11 := fun h9 => by rw [h9] at c_3; exact absurd c_3 (by decide)
            have n12 : ¬ f = 12 := fun h9 => by rw [h9] at c_3; exact absurd c_3 (by decide)
            have n13 : ¬ f = 13 := fun h9 => by rw [h9] at c_3; exact absurd c_3 (by decide)
            exact Or.inr ⟨rfl, by simp [fIs, c_1, c_2, n1, n2, n3, n4, n11, n12, n13]⟩), ht⟩) (fun _ h => by cases h) dX1_formIs_160
      · refine lv_tableIn (tgt := 80) hx hb dX1_formIs_14 (by omega) (by omega) (by rw [c_3]; rfl) (by decide) ?_
        have c_3 : f = 1 := Int32.toInt_inj.mp c_3
        refine lv_iload_n hx hb dX1_formIs_80 rfl (lv_at hl 1 rfl) ?_
        refine lv_if_ne (tgt := 88) hx hb dX1_formIs_81 (by decide) (fun c_4 => ?_) (fun c_4 => ?_)
        · refine lv_iconst (v := 0) hx hb dX1_formIs_88 (by decide) ?_
          exact W.zret (v := 0) hx hb hr rfl (fun t9 ht hW => ⟨0, rfl, (by
              exact Or.inr ⟨rfl, by subst c_3; simp [fIs, c_1, c_2, c_4]⟩), ht⟩) (fun _ h => by cases h) dX1_formIs_89
        · refine lv_iconst (v := 1) hx hb dX1_formIs_84 (by decide) ?_
          refine lv_goto (tgt := 89) hx hb dX1_formIs_85 (by decide) ?_
          exact W.zret (v := 1) hx hb hr rfl (fun t9 ht hW => ⟨1, rfl, (by
              exact Or.inl ⟨rfl, by subst c_3; simp [fIs, c_1, c_2, c_4]⟩), ht⟩) (fun _ h => by cases h) dX1_formIs_89
      · refine lv_tableIn (tgt := 90) hx hb dX1_formIs_14 (by omega) (by omega) (by rw [c_3]; rfl) (by decide) ?_
        have c_3 : f = 2 := Int32.toInt_inj.mp c_3
        refine lv_iload_n hx hb dX1_formIs_90 rfl (lv_at hl 1 rfl) ?_
        refine lv_if_eq (tgt := 105) hx hb dX1_formIs_91 (by decide) (fun c_5 => ?_) (fun c_5 => ?_)
        · refine lv_iconst (v := 1) hx hb dX1_formIs_105 (by decide) ?_
          refine lv_goto (tgt := 110) hx hb dX1_formIs_106 (by decide) ?_
          exact W.zret (v := 1) hx hb hr rfl (fun t9 ht hW => ⟨1, rfl, (by
              exact Or.inl ⟨rfl, by subst c_3; simp [fIs, c_1, c_2, c_5]⟩), ht⟩) (fun _ h => by cases h) dX1_formIs_110
        · refine lv_iload_n hx hb dX1_formIs_94 rfl (lv_at hl 1 rfl) ?_
          refine lv_iconst (v := 1) hx hb dX1_formIs_95 (by decide) ?_
          refine lv_icmp_eq (tgt := 105) hx hb dX1_formIs_96 (by decide) (fun c_6 => ?_) (fun c_6 => ?_)
          · refine lv_iconst (v := 1) hx hb dX1_formIs_105 (by decide) ?_
            refine lv_goto (tgt := 110) hx hb dX1_formIs_106 (by decide) ?_
            exact W.zret (v := 1) hx hb hr rfl (fun t9 ht hW => ⟨1, rfl, (by
                exact Or.inl ⟨rfl, by subst c_3; simp [fIs, c_1, c_2, c_5, c_6]⟩), ht⟩) (fun _ h => by cases h) dX1_formIs_110
          · refine lv_iload_n hx hb dX1_formIs_99 rfl (lv_at hl 1 rfl) ?_
            refine lv_bipush (v := 19) hx hb dX1_formIs_100 (by decide) ?_
            refine lv_icmp_ne (tgt := 109) hx hb dX1_formIs_102 (by decide) (fun c_7 => ?_) (fun c_7 => ?_)
            · refine lv_iconst (v := 0) hx hb dX1_formIs_109 (by decide) ?_
              exact W.zret (v := 0) hx hb hr rfl (fun t9 ht hW => ⟨0, rfl, (by
                  exact Or.inr ⟨rfl, by subst c_3; simp [fIs, c_1, c_2, c_5, c_6, c_7]⟩), ht⟩) (fun _ h => by cases h) dX1_formIs_110
            · refine lv_iconst (v := 1) hx hb dX1_formIs_105 (by decide) ?_
              refine lv_goto (tgt := 110) hx hb dX1_formIs_106 (by decide) ?_
              exact W.zret (v := 1) hx hb hr rfl (fun t9 ht hW => ⟨1, rfl, (by
                  exact Or.inl ⟨rfl, by subst c_3; simp [fIs, c_1, c_2, c_5, c_6, c_7]⟩), ht⟩) (fun _ h => by cases h) dX1_formIs_110
      · refine lv_tableIn (tgt := 80) hx hb dX1_formIs_14 (by omega) (by omega) (by rw [c_3]; rfl) (by decide) ?_
        have c_3 : f = 3 := Int32.toInt_inj.mp c_3
        refine lv_iload_n hx hb dX1_formIs_80 rfl (lv_at hl 1 rfl) ?_
        refine lv_if_ne (tgt := 88) hx hb dX1_formIs_81 (by decide) (fun c_8 => ?_) (fun c_8 => ?_)
        · refine lv_iconst (v := 0) hx hb dX1_formIs_88 (by decide) ?_
          exact W.zret (v := 0) hx hb hr rfl (fun t9 ht hW => ⟨0, rfl, (by
              exact Or.inr ⟨rfl, by subst c_3; simp [fIs, c_1, c_2, c_8]⟩), ht⟩) (fun _ h => by cases h) dX1_formIs_89
        · refine lv_iconst (v := 1) hx hb dX1_formIs_84 (by decide) ?_
          refine lv_goto (tgt := 89) hx hb dX1_formIs_85 (by decide) ?_
          exact W.zret (v := 1) hx hb hr rfl (fun t9 ht hW => ⟨1, rfl, (by
              exact Or.inl ⟨rfl, by subst c_3; simp [fIs, c_1, c_2, c_8]⟩), ht⟩) (fun _ h => by cases h) dX1_formIs_89
      · refine lv_tableIn (tgt := 111) hx hb dX1_formIs_14 (by omega) (by omega) (by rw [c_3]; rfl) (by decide) ?_
        have c_3 : f = 4 := Int32.toInt_inj.mp c_3
        refine lv_iload_n hx hb dX1_formIs_111 rfl (lv_at hl 1 rfl) ?_
        refine lv_bipush (v := 19) hx hb dX1_formIs_112 (by decide) ?_
        refine lv_icmp_ne (tgt := 121) hx hb dX1_formIs_114 (by decide) (fun c_9 => ?_) (fun c_9 => ?_)
        · refine lv_iconst (v := 0) hx hb dX1_formIs_121 (by decide) ?_
          exact W.zret (v := 0) hx hb hr rfl (fun t9 ht hW => ⟨0, rfl, (by
              exact Or.inr ⟨rfl, by subst c_3; simp [fIs, c_1, c_2, c_9]⟩), ht⟩) (fun _ h => by cases h) dX1_formIs_122
        · refine lv_iconst (v := 1) hx hb dX1_formIs_117 (by decide) ?_
          refine lv_goto (tgt := 122) hx hb dX1_formIs_118 (by decide) ?_
          exact W.zret (v := 1) hx hb hr rfl (fun t9 ht hW => ⟨1, rfl, (by
              exact Or.inl ⟨rfl, by subst c_3; simp [fIs, c_1, c_2, c_9]⟩), ht⟩) (fun _ h => by cases h) dX1_formIs_122
      · refine lv_tableIn (tgt := 159) hx hb dX1_formIs_14 (by omega) (by omega) (by rw [c_3]; rfl) (by decide) ?_
        have c_3 : f = 5 := Int32.toInt_inj.mp c_3
        refine lv_iconst (v := 0) hx hb dX1_formIs_159 (by decide) ?_
        exact W.zret (v := 0) hx hb hr rfl (fun t9 ht hW => ⟨0, rfl, (by
            exact Or.inr ⟨rfl, by subst c_3; simp [fIs, c_1, c_2]⟩), ht⟩) (fun _ h => by cases h) dX1_formIs_160
      · refine lv_tableIn (tgt := 159) hx hb dX1_formIs_14 (by omega) (by omega) (by rw [c_3]; rfl) (by decide) ?_
        have c_3 : f = 6 := Int32.toInt_inj.mp c_3
        refine lv_iconst (v := 0) hx hb dX1_formIs_159 (by decide) ?_
        exact W.zret (v := 0) hx hb hr rfl (fun t9 ht hW => ⟨0, rfl, (by
            exact Or.inr ⟨rfl, by subst c_3; simp [fIs, c_1, c_2]⟩), ht⟩) (fun _ h => by cases h) dX1_formIs_160
      · refine lv_tableIn (tgt := 159) hx hb dX1_formIs_14 (by omega) (by omega) (by rw [c_3]; rfl) (by decide) ?_
        have c_3 : f = 7 := Int32.toInt_inj.mp c_3
        refine lv_iconst (v := 0) hx hb dX1_formIs_159 (by decide) ?_
        exact W.zret (v := 0) hx hb hr rfl (fun t9 ht hW => ⟨0, rfl, (by
            exact Or.inr ⟨rfl, by subst c_3; simp [fIs, c_1, c_2]⟩), ht⟩) (fun _ h => by cases h) dX1_formIs_160
      · refine lv_tableIn (tgt := 159) hx hb dX1_formIs_14 (by omega) (by omega) (by rw [c_3]; rfl) (by decide) ?_
        have c_3 : f = 8 := Int32.toInt_inj.mp c_3
        refine lv_iconst (v := 0) hx hb dX1_formIs_159 (by decide) ?_
        exact W.zret (v := 0) hx hb hr rfl (fun t9 ht hW => ⟨0, rfl, (by
            exact Or.inr ⟨rfl, by subst c_3; simp [fIs, c_1, c_2]⟩), ht⟩) (fun _ h => by cases h) dX1_formIs_160
      · refine lv_tableIn (tgt := 159) hx hb dX1_formIs_14 (by omega) (by omega) (by rw [c_3]; rfl) (by decide) ?_
        have c_3 : f = 9 := Int32.toInt_inj.mp c_3
        refine lv_iconst (v := 0) hx hb dX1_formIs_159 (by decide) ?_
        exact W.zret (v := 0) hx hb hr rfl (fun t9 ht hW => ⟨0, rfl, (by
            exact Or.inr ⟨rfl, by subst c_3; simp [fIs, c_1, c_2]⟩), ht⟩) (fun _ h => by cases h) dX1_formIs_160
      · refine lv_tableIn (tgt := 159) hx hb dX1_formIs_14 (by omega) (by omega) (by rw [c_3]; rfl) (by decide) ?_
        have c_3 : f = 10 := Int32.toInt_inj.mp c_3
        refine lv_iconst (v := 0) hx hb dX1_formIs_159 (by decide) ?_
        exact W.zret (v := 0) hx hb hr rfl (fun t9 ht hW => ⟨0, rfl, (by
            exact Or.inr ⟨rfl, by subst c_3; simp [fIs, c_1, c_2]⟩), ht⟩) (fun _ h => by cases h) dX1_formIs_160
      · refine lv_tableIn (tgt := 123) hx hb dX1_formIs_14 (by omega) (by omega) (by rw [c_3]; rfl) (by decide) ?_
        have c_3 : f = 11 := Int32.toInt_inj.mp c_3
        refine lv_iload_n hx hb dX1_formIs_123 rfl (lv_at hl 1 rfl) ?_
        refine lv_bipush (v := 10) hx hb dX1_formIs_124 (by decide) ?_
        refine lv_icmp_ne (tgt := 133) hx hb dX1_formIs_126 (by decide) (fun c_10 => ?_) (fun c_10 => ?_)
        · refine lv_iconst (v := 0) hx hb dX1_formIs_133 (by decide) ?_
          exact W.zret (v := 0) hx hb hr rfl (fun t9 ht hW => ⟨0, rfl, (by
              exact Or.inr ⟨rfl, by subst c_3; simp [fIs, c_1, c_2, c_10]⟩), ht⟩) (fun _ h => by cases h) dX1_formIs_134
        · refine lv_iconst (v := 1) hx hb dX1_formIs_129 (by decide) ?_
          refine lv_goto (tgt := 134) hx hb dX1_formIs_130 (by decide) ?_
          exact W.zret (v := 1) hx hb hr rfl (fun t9 ht hW => ⟨1, rfl, (by
              exact Or.inl ⟨rfl, by subst c_3; simp [fIs, c_1, c_2, c_10]⟩), ht⟩) (fun _ h => by cases h) dX1_formIs_134
      · refine lv_tableIn (tgt := 135) hx hb dX1_formIs_14 (by omega) (by omega) (by rw [c_3]; rfl) (by decide) ?_
        have c_3 : f = 12 := Int32.toInt_inj.mp c_3
        refine lv_iload_n hx hb dX1_formIs_135 rfl (lv_at hl 1 rfl) ?_
        refine lv_bipush (v := 10) hx hb dX1_formIs_136 (by decide) ?_
        refine lv_icmp_eq (tgt := 153) hx hb dX1_formIs_138 (by decide) (fun c_11 => ?_) (fun c_11 => ?_)
        · refine lv_iconst (v := 1) hx hb dX1_formIs_153 (by decide) ?_
          refine lv_goto (tgt := 158) hx hb dX1_formIs_154 (by decide) ?_
          exact W.zret (v := 1) hx hb hr rfl (fun t9 ht hW => ⟨1, rfl, (by
              exact Or.inl ⟨rfl, by subst c_3; simp [fIs, c_1, c_2, c_11]⟩), ht⟩) (fun _ h => by cases h) dX1_formIs_158
        · refine lv_iload_n hx hb dX1_formIs_141 rfl (lv_at hl 1 rfl) ?_
          refine lv_bipush (v := 11) hx hb dX1_formIs_142 (by decide) ?_
          refine lv_icmp_eq (tgt := 153) hx hb dX1_formIs_144 (by decide) (fun c_12 => ?_) (fun c_12 => ?_)
          · refine lv_iconst (v := 1) hx hb dX1_formIs_153 (by decide) ?_
            refine lv_goto (tgt := 158) hx hb dX1_formIs_154 (by decide) ?_
            exact W.zret (v := 1) hx hb hr rfl (fun t9 ht hW => ⟨1, rfl, (by
                exact Or.inl ⟨rfl, by subst c_3; simp [fIs, c_1, c_2, c_11, c_12]⟩), ht⟩) (fun _ h => by cases h) dX1_formIs_158
          · refine lv_iload_n hx hb dX1_formIs_147 rfl (lv_at hl 1 rfl) ?_
            refine lv_bipush (v := 14) hx hb dX1_formIs_148 (by decide) ?_
            refine lv_icmp_ne (tgt := 157) hx hb dX1_formIs_150 (by decide) (fun c_13 => ?_) (fun c_13 => ?_)
            · refine lv_iconst (v := 0) hx hb dX1_formIs_157 (by decide) ?_
              exact W.zret (v := 0) hx hb hr rfl (fun t9 ht hW => ⟨0, rfl, (by
                  exact Or.inr ⟨rfl, by subst c_3; simp [fIs, c_1, c_2, c_11, c_12, c_13]⟩), ht⟩) (fun _ h => by cases h) dX1_formIs_158
            · refine lv_iconst (v := 1) hx hb dX1_formIs_153 (by decide) ?_
              refine lv_goto (tgt := 158) hx hb dX1_formIs_154 (by decide) ?_
              exact W.zret (v := 1) hx hb hr rfl (fun t9 ht hW => ⟨1, rfl, (by
                  exact Or.inl ⟨rfl, by subst c_3; simp [fIs, c_1, c_2, c_11, c_12, c_13]⟩), ht⟩) (fun _ h => by cases h) dX1_formIs_158
      · refine lv_tableIn (tgt := 123) hx hb dX1_formIs_14 (by omega) (by omega) (by rw [c_3]; rfl) (by decide) ?_
        have c_3 : f = 13 := Int32.toInt_inj.mp c_3
        refine lv_iload_n hx hb dX1_formIs_123 rfl (lv_at hl 1 rfl) ?_
        refine lv_bipush (v := 10) hx hb dX1_formIs_124 (by decide) ?_
        refine lv_icmp_ne (tgt := 133) hx hb dX1_formIs_126 (by decide) (fun c_14 => ?_) (fun c_14 => ?_)
        · refine lv_iconst (v := 0) hx hb dX1_formIs_133 (by decide) ?_
          exact W.zret (v := 0) hx hb hr rfl (fun t9 ht hW => ⟨0, rfl, (by
              exact Or.inr ⟨rfl, by subst c_3; simp [fIs, c_1, c_2, c_14]⟩), ht⟩) (fun _ h => by cases h) dX1_formIs_134
        · refine lv_iconst (v := 1) hx hb dX1_formIs_129 (by decide) ?_
          refine lv_goto (tgt := 134) hx hb dX1_formIs_130 (by decide) ?_
          exact W.zret (v := 1) hx hb hr rfl (fun t9 ht hW => ⟨1, rfl, (by
              exact Or.inl ⟨rfl, by subst c_3; simp [fIs, c_1, c_2, c_14]⟩), ht⟩) (fun _ h => by cases h) dX1_formIs_134
    · refine lv_iconst (v := 1) hx hb dX1_formIs_11 (by decide) ?_
      exact W.zret (v := 1) hx hb hr rfl (fun t9 ht hW => ⟨1, rfl, (by
          exact Or.inl ⟨rfl, by simp [fIs, c_1, c_2]⟩), ht⟩) (fun _ h => by cases h) dX1_formIs_12

set_option maxHeartbeats 4000000 in
set_option maxRecDepth 100000 in
theorem c_X1_isOf (l : Launch) (D : va_G) (kI kJ kL : ClassId) (a q : Nat → Nat) (S : Nat → Nat → Int32) (N : Nat → Nat → Nat → Int32) (F : Nat → Option Nat) (B : Nat) (t : Int32) (k : Int32) (hn : (S 6 0).toInt ≤ 110) : Met l yX1_isOf wsX1_isOf ({ frames := 1, cells := 0, slots := 0, locals := 21 }) (q_rP D (xTY kI kJ kL) (xW kI kL a q S N F B) [.ref (a 0), .int t, .int k]) (vp_Si (fun r => (r = 1 ∧ xOf S t k) ∨ (r = 0 ∧ ¬ xOf S t k))) 0 0 (fun _ => False) := by
  refine Met.ofW (cc := cX1_isOf) (maxL := 3) (ret := (some .boolean)) (by decide) rfl ?_
  intro p e s m args below meth c s₁ Bd hml hv
  obtain ⟨rfl, hP, hK, hN⟩ := hv
  have hx := Bd.exec
  have hb := Bd.bytes
  have hr := Bd.returns
  have hts := atoms_spec (ws := wsX1_isOf) Bd.pre
  have hown : s.vm.findClass RX1 = some m.cls := findClass_of_methodNamed Bd.named
  have hlocks := Bd.notSynchronized
  have hl := lv_entry ([.ref (a 0), .int t, .int k]) (n := 3) (Nat.le_of_ble_eq_true rfl)
  rw [lg_entry_eq]
  generalize (lg_sl ([.ref (a 0), .int t, .int k]) ++ List.replicate (3 - (lg_sl ([.ref (a 0), .int t, .int k])).length) Slot.unset).toArray = ls at hl ⊢
  have hl : lv_has ls 3 [(0, .ref (a 0)), (1, .int t), (2, .int k)] := hl
  have hinX1 : ∀ w ∈ u_ws RX1 TX1 9, w ∈ wsX1_isOf := by decide +kernel
  refine lv_aload_n hx hb dX1_isOf_0 rfl (lv_at hl 0 rfl) ?_
  refine lv_iload_n hx hb dX1_isOf_1 rfl (lv_at hl 1 rfl) ?_
  refine vp_callSi (W.runV (As := [.int t]) (rest := []) ⟨hx, hb, hml, hown, hts⟩ (c_X1_isThing l D kI kJ kL a q S N F B t) (cwV 1 hts gX1_isOf_X1_isThing rfl rfl rfl (by decide +kernel) ⟨Nat.le_of_ble_eq_true rfl, Nat.le_of_ble_eq_true rfl⟩) (q_rV (w2 := []) hK hN (by rw [List.append_nil]; exact hP) (va_recv hK hP (ci := 4) (q0 := 0) rfl rfl)) rfl rfl hl.1 rfl (lv_room (Nat.le_of_ble_eq_true rfl)) dX1_isOf_2 ⟨Nat.le_of_ble_eq_true rfl, Nat.le_of_ble_eq_true rfl⟩) (fun r_h_1 h_1 => ?_)
  rcases h_1 with ⟨rfl, h_1⟩ | ⟨rfl, h_1⟩
  · refine lv_if_eq (tgt := 25) hx hb dX1_isOf_5 (by decide) (fun c_2 => absurd c_2 (by decide)) (fun c_2 => ?_)
    refine lv_aload_n hx hb dX1_isOf_8 rfl (lv_at hl 0 rfl) ?_
    refine va_get (D := D) (ci := 4) (v := .ref (a 1)) (C := RX1) (T := TX1) (N := 9) hx hb hts hinX1 hown hK hP 0 rfl rfl 0 (by decide) (hts (.fieldLink RX1 9 "LoanCases" "forms" "[I") (by decide +kernel)) (fun _ h9 => h9) rfl dX1_isOf_9 ?_
    refine lv_iload_n hx hb dX1_isOf_12 rfl (lv_at hl 1 rfl) ?_
    refine va_iald (f := S 0) hx hb hK hP 1 0 rfl rfl (xT_in hn h_1) dX1_isOf_13 ?_
    refine lv_iload_n hx hb dX1_isOf_14 rfl (lv_at hl 2 rfl) ?_
    refine vp_callSi (W.runS (As := [.int (S 0 t.toNatClampNeg), .int k]) (rest := []) ⟨hx, hb, hml, hown, hts⟩ (c_X1_formIs l D kI kJ kL (S 0 t.toNatClampNeg) k) (va_cwS 2 hts gX1_isOf_X1_formIs rfl rfl rfl (by decide +kernel) ⟨Nat.le_of_ble_eq_true rfl, Nat.le_of_ble_eq_true rfl⟩) (q_rS0 hK hN) rfl rfl hl.1 rfl (lv_room (Nat.le_of_ble_eq_true rfl)) dX1_isOf_15 ⟨Nat.le_of_ble_eq_true rfl, Nat.le_of_ble_eq_true rfl⟩) (fun r_h_3 h_3 => ?_)
    rcases h_3 with ⟨rfl, h_3⟩ | ⟨rfl, h_3⟩
    · refine lv_if_eq (tgt := 25) hx hb dX1_isOf_18 (by decide) (fun c_4 => absurd c_4 (by decide)) (fun c_4 => ?_)
      refine lv_iconst (v := 1) hx hb dX1_isOf_21 (by decide) ?_
      refine lv_goto (tgt := 26) hx hb dX1_isOf_22 (by decide) ?_
      exact W.zret (v := 1) hx hb hr rfl (fun t9 ht hW => ⟨1, rfl, (Or.inl ⟨rfl, ⟨h_1, h_3⟩⟩), ht⟩) (fun _ h => by cases h) dX1_isOf_26
    · refine lv_if_eq (tgt := 25) hx hb dX1_isOf_18 (by decide) (fun c_5 => ?_) (fun c_5 => absurd c_5 (by decide))
      refine lv_iconst (v := 0) hx hb dX1_isOf_25 (by decide) ?_
      exact W.zret (v := 0) hx hb hr rfl (fun t9 ht hW => ⟨0, rfl, (Or.inr ⟨rfl, (fun h9 => h_3 h9.2)⟩), ht⟩) (fun _ h => by cases h) dX1_isOf_26
  · refine lv_if_eq (tgt := 25) hx hb dX1_isOf_5 (by decide) (fun c_6 => ?_) (fun c_6 => absurd c_6 (by decide))
    refine lv_iconst (v := 0) hx hb dX1_isOf_25 (by decide) ?_
    exact W.zret (v := 0) hx hb hr rfl (fun t9 ht hW => ⟨0, rfl, (Or.inr ⟨rfl, (fun h9 => h_1 h9.1)⟩), ht⟩) (fun _ h => by cases h) dX1_isOf_26

set_option maxHeartbeats 4000000 in
set_option maxRecDepth 100000 in
theorem c_X1_passesFor (l : Launch) (D : va_G) (kI kJ kL : ClassId) (a q : Nat → Nat) (S : Nat → Nat → Int32) (N : Nat → Nat → Nat → Int32) (F : Nat → Option Nat) (B : Nat) (t : Int32) (k : Int32) (hn : (S 6 0).toInt ≤ 110) : Met l yX1_passesFor wsX1_passesFor ({ frames := 2, cells := 0, slots := 0, locals := 43 }) (q_rP D (xTY kI kJ kL) (xW kI kL a q S N F B) [.ref (a 0), .int t, .int k]) (vp_Si (fun r => (r = 1 ∧ xPs S t k) ∨ (r = 0 ∧ ¬ xPs S t k))) 0 0 (fun _ => False) := by
  refine Met.ofW (cc := cX1_passesFor) (maxL := 3) (ret := (some .boolean)) (by decide) rfl ?_
  intro p e s m args below meth c s₁ Bd hml hv
  obtain ⟨rfl, hP, hK, hN⟩ := hv
  have hx := Bd.exec
  have hb := Bd.bytes
  have hr := Bd.returns
  have hts := atoms_spec (ws := wsX1_passesFor) Bd.pre
  have hown : s.vm.findClass RX1 = some m.cls := findClass_of_methodNamed Bd.named
  have hlocks := Bd.notSynchronized
  have hl := lv_entry ([.ref (a 0), .int t, .int k]) (n := 3) (Nat.le_of_ble_eq_true rfl)
  rw [lg_entry_eq]
  generalize (lg_sl ([.ref (a 0), .int t, .int k]) ++ List.replicate (3 - (lg_sl ([.ref (a 0), .int t, .int k])).length) Slot.unset).toArray = ls at hl ⊢
  have hl : lv_has ls 3 [(0, .ref (a 0)), (1, .int t), (2, .int k)] := hl
  have hinX1 : ∀ w ∈ u_ws RX1 TX1 9, w ∈ wsX1_passesFor := by decide +kernel
  refine lv_iload_n hx hb dX1_passesFor_0 rfl (lv_at hl 1 rfl) ?_
  refine lv_bipush (v := -5) hx hb dX1_passesFor_1 (by decide) ?_
  refine lv_icmp_eq (tgt := 15) hx hb dX1_passesFor_3 (by decide) (fun c_1 => ?_) (fun c_1 => ?_)
  · refine lv_iconst (v := 1) hx hb dX1_passesFor_15 (by decide) ?_
    refine lv_goto (tgt := 20) hx hb dX1_passesFor_16 (by decide) ?_
    exact W.zret (v := 1) hx hb hr rfl (fun t9 ht hW => ⟨1, rfl, (Or.inl ⟨rfl, Or.inl c_1⟩), ht⟩) (fun _ h => by cases h) dX1_passesFor_20
  · refine lv_aload_n hx hb dX1_passesFor_6 rfl (lv_at hl 0 rfl) ?_
    refine lv_iload_n hx hb dX1_passesFor_7 rfl (lv_at hl 1 rfl) ?_
    refine lv_iload_n hx hb dX1_passesFor_8 rfl (lv_at hl 2 rfl) ?_
    refine vp_callSi (W.runV (As := [.int t, .int k]) (rest := []) ⟨hx, hb, hml, hown, hts⟩ (c_X1_isOf l D kI kJ kL a q S N F B t k hn) (cwV 2 hts gX1_passesFor_X1_isOf rfl rfl rfl (by decide +kernel) ⟨Nat.le_of_ble_eq_true rfl, Nat.le_of_ble_eq_true rfl⟩) (q_rV (w2 := []) hK hN (by rw [List.append_nil]; exact hP) (va_recv hK hP (ci := 4) (q0 := 0) rfl rfl)) rfl rfl hl.1 rfl (lv_room (Nat.le_of_ble_eq_true rfl)) dX1_passesFor_9 ⟨Nat.le_of_ble_eq_true rfl, Nat.le_of_ble_eq_true rfl⟩) (fun r_h_2 h_2 => ?_)
    rcases h_2 with ⟨rfl, h_2⟩ | ⟨rfl, h_2⟩
    · refine lv_if_eq (tgt := 19) hx hb dX1_passesFor_12 (by decide) (fun c_3 => absurd c_3 (by decide)) (fun c_3 => ?_)
      refine lv_iconst (v := 1) hx hb dX1_passesFor_15 (by decide) ?_
      refine lv_goto (tgt := 20) hx hb dX1_passesFor_16 (by decide) ?_
      exact W.zret (v := 1) hx hb hr rfl (fun t9 ht hW => ⟨1, rfl, (Or.inl ⟨rfl, Or.inr h_2⟩), ht⟩) (fun _ h => by cases h) dX1_passesFor_20
    · refine lv_if_eq (tgt := 19) hx hb dX1_passesFor_12 (by decide) (fun c_4 => ?_) (fun c_4 => absurd c_4 (by decide))
      refine lv_iconst (v := 0) hx hb dX1_passesFor_19 (by decide) ?_
      exact W.zret (v := 0) hx hb hr rfl (fun t9 ht hW => ⟨0, rfl, (Or.inr ⟨rfl, (fun h9 => h9.elim c_1 h_2)⟩), ht⟩) (fun _ h => by cases h) dX1_passesFor_20

set_option maxHeartbeats 4000000 in
set_option maxRecDepth 100000 in
theorem c_X1_partOf (l : Launch) (D : va_G) (kI kJ kL : ClassId) (k : Int32) : Met l yX1_partOf wsX1_partOf ({ frames := 0, cells := 0, slots := 0, locals := 0 }) (q_rP D (xTY kI kJ kL) ([]) [.int k]) (vp_Si (fun r => r = xpo k)) 0 0 (fun _ => False) := by
  refine Met.ofW (cc := cX1_partOf) (maxL := 1) (ret := (some .int)) (by decide) rfl ?_
  intro p e s m args below meth c s₁ Bd hml hv
  obtain ⟨rfl, hP, hK, hN⟩ := hv
  have hx := Bd.exec
  have hb := Bd.bytes
  have hr := Bd.returns
  have hts := atoms_spec (ws := wsX1_partOf) Bd.pre
  have hown : s.vm.findClass RX1 = some m.cls := findClass_of_methodNamed Bd.named
  have hlocks := Bd.notSynchronized
  have hl := lv_entry ([.int k]) (n := 1) (Nat.le_of_ble_eq_true rfl)
  rw [lg_entry_eq]
  generalize (lg_sl ([.int k]) ++ List.replicate (1 - (lg_sl ([.int k])).length) Slot.unset).toArray = ls at hl ⊢
  have hl : lv_has ls 1 [(0, .int k)] := hl
  refine lv_iload_n hx hb dX1_partOf_0 rfl (lv_at hl 0 rfl) ?_
  rcases (show k.toInt < 9 ∨ 17 < k.toInt ∨ k.toInt = 9 ∨ k.toInt = 10 ∨ k.toInt = 11 ∨ k.toInt = 12 ∨ k.toInt = 13 ∨ k.toInt = 14 ∨ k.toInt = 15 ∨ k.toInt = 16 ∨ k.toInt = 17 by omega) with c_1 | c_1 | c_1 | c_1 | c_1 | c_1 | c_1 | c_1 | c_1 | c_1 | c_1
  · refine lv_tableOut (tgt := 75) hx hb dX1_partOf_1 (Or.inl c_1) (by decide) ?_
    refine lv_bipush (v := -5) hx hb dX1_partOf_75 (by decide) ?_
    exact W.iret (v := (-5)) hx hb hr (fun t9 ht hW => ⟨(-5), rfl, (by simp [xpo, show ¬ k = 9 from fun h9 => by rw [h9] at c_1; exact absurd c_1 (by decide), show ¬ k = 10 from fun h9 => by rw [h9] at c_1; exact absurd c_1 (by decide), show ¬ k = 11 from fun h9 => by rw [h9] at c_1; exact absurd c_1 (by decide), show ¬ k = 12 from fun h9 => by rw [h9] at c_1; exact absurd c_1 (by decide), show ¬ k = 13 from fun h9 => by rw [h9] at c_1; exact absurd c_1 (by decide), show ¬ k = 14 from fun h9 => by rw [h9] at c_1; exact absurd c_1 (by decide), show ¬ k = 15 from fun h9 => by rw [h9] at c_1; exact absurd c_1 (by decide), show ¬ k = 16 from fun h9 => by rw [h9] at c_1; exact absurd c_1 (by decide), show ¬ k = 17 from fun h9 => by rw [h9] at c_1; exact absurd c_1 (by decide)]), ht⟩) (fun _ h => by cases h) dX1_partOf_77
  · refine lv_tableOut (tgt := 75) hx hb dX1_partOf_1 (Or.inr c_1) (by decide) ?_
    refine lv_bipush (v := -5) hx hb dX1_partOf_75 (by decide) ?_
    exact W.iret (v := (-5)) hx hb hr (fun t9 ht hW => ⟨(-5), rfl, (by simp [xpo, show ¬ k = 9 from fun h9 => by rw [h9] at c_1; exact absurd c_1 (by decide), show ¬ k = 10 from fun h9 => by rw [h9] at c_1; exact absurd c_1 (by decide), show ¬ k = 11 from fun h9 => by rw [h9] at c_1; exact absurd c_1 (by decide), show ¬ k = 12 from fun h9 => by rw [h9] at c_1; exact absurd c_1 (by decide), show ¬ k = 13 from fun h9 => by rw [h9] at c_1; exact absurd c_1 (by decide), show ¬ k = 14 from fun h9 => by rw [h9] at c_1; exact absurd c_1 (by decide), show ¬ k = 15 from fun h9 => by rw [h9] at c_1; exact absurd c_1 (by decide), show ¬ k = 16 from fun h9 => by rw [h9] at c_1; exact absurd c_1 (by decide), show ¬ k = 17 from fun h9 => by rw [h9] at c_1; exact absurd c_1 (by decide)]), ht⟩) (fun _ h => by cases h) dX1_partOf_77
  · refine lv_tableIn (tgt := 52) hx hb dX1_partOf_1 (by omega) (by omega) (by rw [c_1]; rfl) (by decide) ?_
    have c_1 : k = 9 := Int32.toInt_inj.mp c_1
    refine lv_bipush (v := 6) hx hb dX1_partOf_52 (by decide) ?_
    exact W.iret (v := 6) hx hb hr (fun t9 ht hW => ⟨6, rfl, (by rw [c_1]; rfl), ht⟩) (fun _ h => by cases h) dX1_partOf_54
  · refine lv_tableIn (tgt := 55) hx hb dX1_partOf_1 (by omega) (by omega) (by rw [c_1]; rfl) (by decide) ?_
    have c_1 : k = 10 := Int32.toInt_inj.mp c_1
    refine lv_iconst (v := 0) hx hb dX1_partOf_55 (by decide) ?_
    exact W.iret (v := 0) hx hb hr (fun t9 ht hW => ⟨0, rfl, (by rw [c_1]; rfl), ht⟩) (fun _ h => by cases h) dX1_partOf_56
  · refine lv_tableIn (tgt := 57) hx hb dX1_partOf_1 (by omega) (by omega) (by rw [c_1]; rfl) (by decide) ?_
    have c_1 : k = 11 := Int32.toInt_inj.mp c_1
    refine lv_iconst (v := 1) hx hb dX1_partOf_57 (by decide) ?_
    exact W.iret (v := 1) hx hb hr (fun t9 ht hW => ⟨1, rfl, (by rw [c_1]; rfl), ht⟩) (fun _ h => by cases h) dX1_partOf_58
  · refine lv_tableIn (tgt := 59) hx hb dX1_partOf_1 (by omega) (by omega) (by rw [c_1]; rfl) (by decide) ?_
    have c_1 : k = 12 := Int32.toInt_inj.mp c_1
    refine lv_iconst (v := 2) hx hb dX1_partOf_59 (by decide) ?_
    exact W.iret (v := 2) hx hb hr (fun t9 ht hW => ⟨2, rfl, (by rw [c_1]; rfl), ht⟩) (fun _ h => by cases h) dX1_partOf_60
  · refine lv_tableIn (tgt := 61) hx hb dX1_partOf_1 (by omega) (by omega) (by rw [c_1]; rfl) (by decide) ?_
    have c_1 : k = 13 := Int32.toInt_inj.mp c_1
    refine lv_iconst (v := 3) hx hb dX1_partOf_61 (by decide) ?_
    exact W.iret (v := 3) hx hb hr (fun t9 ht hW => ⟨3, rfl, (by rw [c_1]; rfl), ht⟩) (fun _ h => by cases h) dX1_partOf_62
  · refine lv_tableIn (tgt := 63) hx hb dX1_partOf_1 (by omega) (by omega) (by rw [c_1]; rfl) (by decide) ?_
    have c_1 : k = 14 := Int32.toInt_inj.mp c_1
    refine lv_bipush (v := 19) hx hb dX1_partOf_63 (by decide) ?_
    exact W.iret (v := 19) hx hb hr (fun t9 ht hW => ⟨19, rfl, (by rw [c_1]; rfl), ht⟩) (fun _ h => by cases h) dX1_partOf_65
  · refine lv_tableIn (tgt := 66) hx hb dX1_partOf_1 (by omega) (by omega) (by rw [c_1]; rfl) (by decide) ?_
    have c_1 : k = 15 := Int32.toInt_inj.mp c_1
    refine lv_bipush (v := 11) hx hb dX1_partOf_66 (by decide) ?_
    exact W.iret (v := 11) hx hb hr (fun t9 ht hW => ⟨11, rfl, (by rw [c_1]; rfl), ht⟩) (fun _ h => by cases h) dX1_partOf_68
  · refine lv_tableIn (tgt := 69) hx hb dX1_partOf_1 (by omega) (by omega) (by rw [c_1]; rfl) (by decide) ?_
    have c_1 : k = 16 := Int32.toInt_inj.mp c_1
    refine lv_bipush (v := 14) hx hb dX1_partOf_69 (by decide) ?_
    exact W.iret (v := 14) hx hb hr (fun t9 ht hW => ⟨14, rfl, (by rw [c_1]; rfl), ht⟩) (fun _ h => by cases h) dX1_partOf_71
  · refine lv_tableIn (tgt := 72) hx hb dX1_partOf_1 (by omega) (by omega) (by rw [c_1]; rfl) (by decide) ?_
    have c_1 : k = 17 := Int32.toInt_inj.mp c_1
    refine lv_bipush (v := 15) hx hb dX1_partOf_72 (by decide) ?_
    exact W.iret (v := 15) hx hb hr (fun t9 ht hW => ⟨15, rfl, (by rw [c_1]; rfl), ht⟩) (fun _ h => by cases h) dX1_partOf_74

set_option maxHeartbeats 4000000 in
set_option maxRecDepth 100000 in
theorem c_X1_worthOf (l : Launch) (D : va_G) (kI kJ kL : ClassId) (f : Int32) (y : Int32) : Met l yX1_worthOf wsX1_worthOf ({ frames := 0, cells := 0, slots := 0, locals := 0 }) (q_rP D (xTY kI kJ kL) ([]) [.int f, .int y]) (vp_Si (fun r => r = xwo f y)) 0 0 (fun _ => False) := by
  refine Met.ofW (cc := cX1_worthOf) (maxL := 3) (ret := (some .int)) (by decide) rfl ?_
  intro p e s m args below meth c s₁ Bd hml hv
  obtain ⟨rfl, hP, hK, hN⟩ := hv
  have hx := Bd.exec
  have hb := Bd.bytes
  have hr := Bd.returns
  have hts := atoms_spec (ws := wsX1_worthOf) Bd.pre
  have hown : s.vm.findClass RX1 = some m.cls := findClass_of_methodNamed Bd.named
  have hlocks := Bd.notSynchronized
  have hl := lv_entry ([.int f, .int y]) (n := 3) (Nat.le_of_ble_eq_true rfl)
  rw [lg_entry_eq]
  generalize (lg_sl ([.int f, .int y]) ++ List.replicate (3 - (lg_sl ([.int f, .int y])).length) Slot.unset).toArray = ls at hl ⊢
  have hl : lv_has ls 3 [(0, .int f), (1, .int y)] := hl
  refine lv_iload_n hx hb dX1_worthOf_0 rfl (lv_at hl 1 rfl) ?_
  refine lv_iconst (v := 1) hx hb dX1_worthOf_1 (by decide) ?_
  refine lv_iadd hx hb dX1_worthOf_2 ?_
  refine lv_topi (fun x_1 ex_1 => ?_)
  refine lv_istore_n (lv' := [(2, .int x_1), (0, .int f), (1, .int y)]) hx hb dX1_worthOf_3 rfl hl (by decide) rfl (fun ls hl => ?_)
  refine lv_iload_n hx hb dX1_worthOf_4 rfl (lv_at hl 1 rfl) ?_
  by_cases c_21 : f = 1
  · refine lv_lookup (off := 27) (tgt := 32) hx hb dX1_worthOf_5 (by decide) (by rw [c_21]; rfl) (by decide) ?_
    refine lv_iload_n hx hb dX1_worthOf_32 rfl (lv_at hl 0 rfl) ?_
    refine lv_iconst (v := 2) hx hb dX1_worthOf_33 (by decide) ?_
    refine lv_imul hx hb dX1_worthOf_34 ?_
    exact W.iret (v := (x_1 * 2)) hx hb hr (fun t9 ht hW => ⟨(x_1 * 2), rfl, (by simp [xwo, c_21, ex_1, ex_1, c_21]), ht⟩) (fun _ h => by cases h) dX1_worthOf_35
  by_cases c_22 : f = 2
  · refine lv_lookup (off := 31) (tgt := 36) hx hb dX1_worthOf_5 (by decide) (by rw [c_22]; rfl) (by decide) ?_
    refine lv_iload_n hx hb dX1_worthOf_36 rfl (lv_at hl 0 rfl) ?_
    refine lv_iconst (v := 2) hx hb dX1_worthOf_37 (by decide) ?_
    refine lv_imul hx hb dX1_worthOf_38 ?_
    refine lv_bipush (v := 100) hx hb dX1_worthOf_39 (by decide) ?_
    refine lv_iadd hx hb dX1_worthOf_41 ?_
    exact W.iret (v := ((x_1 * 2) + 100)) hx hb hr (fun t9 ht hW => ⟨((x_1 * 2) + 100), rfl, (by simp [xwo, c_22, ex_1, ex_1, c_22]), ht⟩) (fun _ h => by cases h) dX1_worthOf_42
  refine lv_lookup (off := 38) (tgt := 43) hx hb dX1_worthOf_5 (by decide) ((lv_osw c_21 rfl).trans ((lv_osw c_22 rfl).trans (rfl))) (by decide) ?_
  refine lv_iload_n hx hb dX1_worthOf_43 rfl (lv_at hl 0 rfl) ?_
  exact W.iret (v := x_1) hx hb hr (fun t9 ht hW => ⟨x_1, rfl, (by simp [xwo, ex_1, ex_1, c_21, c_22]), ht⟩) (fun _ h => by cases h) dX1_worthOf_44

set_option maxHeartbeats 4000000 in
set_option maxRecDepth 100000 in
theorem c_X1_lowestBits (l : Launch) (D : va_G) (kI kJ kL : ClassId) (k : Int32) (v : Int64) : Met l yX1_lowestBits wsX1_lowestBits ({ frames := 0, cells := 0, slots := 0, locals := 0 }) (q_rP D (xTY kI kJ kL) ([]) [.int k, .long v]) (vp_Si (fun r => r = xlo k v)) 0 0 (fun _ => False) := by
  refine Met.ofW (cc := cX1_lowestBits) (maxL := 3) (ret := (some .int)) (by decide) rfl ?_
  intro p e s m args below meth c s₁ Bd hml hv
  obtain ⟨rfl, hP, hK, hN⟩ := hv
  have hx := Bd.exec
  have hb := Bd.bytes
  have hr := Bd.returns
  have hts := atoms_spec (ws := wsX1_lowestBits) Bd.pre
  have hown : s.vm.findClass RX1 = some m.cls := findClass_of_methodNamed Bd.named
  have hlocks := Bd.notSynchronized
  have hl := lv_entry ([.int k, .long v]) (n := 3) (Nat.le_of_ble_eq_true rfl)
  rw [lg_entry_eq]
  generalize (lg_sl ([.int k, .long v]) ++ List.replicate (3 - (lg_sl ([.int k, .long v])).length) Slot.unset).toArray = ls at hl ⊢
  have hl : lv_has ls 3 [(0, .int k), (1, .long v)] := hl
  refine lv_iload_n hx hb dX1_lowestBits_0 rfl (lv_at hl 0 rfl) ?_
  rcases (show k.toInt < 5 ∨ 7 < k.toInt ∨ k.toInt = 5 ∨ k.toInt = 6 ∨ k.toInt = 7 by omega) with c_1 | c_1 | c_1 | c_1 | c_1
  · refine lv_tableOut (tgt := 44) hx hb dX1_lowestBits_1 (Or.inl c_1) (by decide) ?_
    refine lv_lload_n hx hb dX1_lowestBits_44 rfl (lv_at hl 1 rfl) ?_
    refine lv_l2i hx hb dX1_lowestBits_45 rfl ?_
    exact W.iret (v := (v.toInt32)) hx hb hr (fun t9 ht hW => ⟨(v.toInt32), rfl, (by simp [xlo, show ¬ k = 5 from fun h9 => by rw [h9] at c_1; exact absurd c_1 (by decide), show ¬ k = 6 from fun h9 => by rw [h9] at c_1; exact absurd c_1 (by decide), show ¬ k = 7 from fun h9 => by rw [h9] at c_1; exact absurd c_1 (by decide)]), ht⟩) (fun _ h => by cases h) dX1_lowestBits_46
  · refine lv_tableOut (tgt := 44) hx hb dX1_lowestBits_1 (Or.inr c_1) (by decide) ?_
    refine lv_lload_n hx hb dX1_lowestBits_44 rfl (lv_at hl 1 rfl) ?_
    refine lv_l2i hx hb dX1_lowestBits_45 rfl ?_
    exact W.iret (v := (v.toInt32)) hx hb hr (fun t9 ht hW => ⟨(v.toInt32), rfl, (by simp [xlo, show ¬ k = 5 from fun h9 => by rw [h9] at c_1; exact absurd c_1 (by decide), show ¬ k = 6 from fun h9 => by rw [h9] at c_1; exact absurd c_1 (by decide), show ¬ k = 7 from fun h9 => by rw [h9] at c_1; exact absurd c_1 (by decide)]), ht⟩) (fun _ h => by cases h) dX1_lowestBits_46
  · refine lv_tableIn (tgt := 28) hx hb dX1_lowestBits_1 (by omega) (by omega) (by rw [c_1]; rfl) (by decide) ?_
    have c_1 : k = 5 := Int32.toInt_inj.mp c_1
    refine lv_lload_n hx hb dX1_lowestBits_28 rfl (lv_at hl 1 rfl) ?_
    refine lv_ldc2 hx hb hown (hts (.constantLong RX1 151 (65535)) (by decide +kernel)) dX1_lowestBits_29 ?_
    refine lv_land hx hb dX1_lowestBits_32 ?_
    refine lv_l2i hx hb dX1_lowestBits_33 rfl ?_
    exact W.iret (v := ((v &&& 65535).toInt32)) hx hb hr (fun t9 ht hW => ⟨((v &&& 65535).toInt32), rfl, (by rw [c_1]; rfl), ht⟩) (fun _ h => by cases h) dX1_lowestBits_34
  · refine lv_tableIn (tgt := 35) hx hb dX1_lowestBits_1 (by omega) (by omega) (by rw [c_1]; rfl) (by decide) ?_
    have c_1 : k = 6 := Int32.toInt_inj.mp c_1
    refine lv_lload_n hx hb dX1_lowestBits_35 rfl (lv_at hl 1 rfl) ?_
    refine lv_l2i hx hb dX1_lowestBits_36 rfl ?_
    refine lv_i2s hx hb dX1_lowestBits_37 rfl ?_
    exact W.iret (v := ((v.toInt32).toInt16.toInt32)) hx hb hr (fun t9 ht hW => ⟨((v.toInt32).toInt16.toInt32), rfl, (by rw [c_1]; rfl), ht⟩) (fun _ h => by cases h) dX1_lowestBits_38
  · refine lv_tableIn (tgt := 39) hx hb dX1_lowestBits_1 (by omega) (by omega) (by rw [c_1]; rfl) (by decide) ?_
    have c_1 : k = 7 := Int32.toInt_inj.mp c_1
    refine lv_lload_n hx hb dX1_lowestBits_39 rfl (lv_at hl 1 rfl) ?_
    refine lv_lconst (v := 1) hx hb dX1_lowestBits_40 (by decide) ?_
    refine lv_land hx hb dX1_lowestBits_41 ?_
    refine lv_l2i hx hb dX1_lowestBits_42 rfl ?_
    exact W.iret (v := ((v &&& 1).toInt32)) hx hb hr (fun t9 ht hW => ⟨((v &&& 1).toInt32), rfl, (by rw [c_1]; rfl), ht⟩) (fun _ h => by cases h) dX1_lowestBits_43
