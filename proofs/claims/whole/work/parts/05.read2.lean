
def xLn (S : Nat → Nat → Int32) (j : Int32) : Prop := ¬ j < 0 ∧ ¬ S 7 0 ≤ j
noncomputable def xld (N : Nat → Nat → Nat → Int32) (j : Nat) : Nat → Int32
  | 0 => 0
  | k + 1 => cif (N j 5 k = -5) (xld N j k) (xld N j k + 1)
set_option maxHeartbeats 4000000 in
set_option maxRecDepth 100000 in
theorem c_X1_leadsTo (l : Launch) (D : va_G) (kI kJ kL : ClassId) (a q : Nat → Nat) (S : Nat → Nat → Int32) (N : Nat → Nat → Nat → Int32) (F : Nat → Option Nat) (B : Nat) (t : Int32) (b : Int32) (hn : (S 6 0).toInt ≤ 110) : Met l yX1_leadsTo wsX1_leadsTo ({ frames := 2, cells := 0, slots := 0, locals := 42 }) (q_rP D (xTY kI kJ kL) (xW kI kL a q S N F B) [.ref (a 0), .int t, .int b]) (vp_Si (fun r => (r = 1 ∧ xch S b 110 t = b) ∨ (r = 0 ∧ ¬ xch S b 110 t = b))) 0 0 (fun _ => False) := by
  refine Met.ofW (cc := cX1_leadsTo) (maxL := 5) (ret := (some .boolean)) (by decide) rfl ?_
  intro p e s m args below meth c s₁ Bd hml hv
  obtain ⟨rfl, hP, hK, hN⟩ := hv
  have hx := Bd.exec
  have hb := Bd.bytes
  have hr := Bd.returns
  have hts := atoms_spec (ws := wsX1_leadsTo) Bd.pre
  have hown : s.vm.findClass RX1 = some m.cls := findClass_of_methodNamed Bd.named
  have hlocks := Bd.notSynchronized
  have hl := lv_entry ([.ref (a 0), .int t, .int b]) (n := 5) (Nat.le_of_ble_eq_true rfl)
  rw [lg_entry_eq]
  generalize (lg_sl ([.ref (a 0), .int t, .int b]) ++ List.replicate (5 - (lg_sl ([.ref (a 0), .int t, .int b])).length) Slot.unset).toArray = ls at hl ⊢
  have hl : lv_has ls 5 [(0, .ref (a 0)), (1, .int t), (2, .int b)] := hl
  have hinX1 : ∀ w ∈ u_ws RX1 TX1 9, w ∈ wsX1_leadsTo := by decide +kernel
  refine lv_iload_n hx hb dX1_leadsTo_0 rfl (lv_at hl 1 rfl) ?_
  refine lv_istore_n (lv' := [(3, .int t), (0, .ref (a 0)), (1, .int t), (2, .int b)]) hx hb dX1_leadsTo_1 rfl hl (by decide) rfl (fun ls hl => ?_)
  refine lv_iconst (v := 0) hx hb dX1_leadsTo_2 (by decide) ?_
  refine lv_istore (lv' := [(4, .int 0), (3, .int t), (0, .ref (a 0)), (1, .int t), (2, .int b)]) hx hb dX1_leadsTo_3 hl (by decide) rfl (fun ls hl => ?_)
  have loop5 : ∀ (n5 : Nat) (i : Nat) (x3 : Int32), (111 ≤ i + n5) → (i ≤ 110) → (xch S b (110 - i) x3 = xch S b 110 t) → ∀ (ls : Array Slot), lv_has ls 5 [(0, .ref (a 0)), (1, .int t), (2, .int b), (3, .int x3), (4, .int (nI i))] → W p l e ({ frames := 2, cells := 0, slots := 0, locals := 42 }) s m ([.ref (a 0), .int t, .int b] : List Value).toArray below meth c s.heap [] 0 0 (MQ below (vp_Si (fun r => (r = 1 ∧ xch S b 110 t = b) ∨ (r = 0 ∧ ¬ xch S b 110 t = b))) ([.ref (a 0), .int t, .int b] : List Value).toArray s 0 0 (fun _ => False)) (F0 m 5 ls []) := by
    intro n5
    induction n5 with
    | zero =>
      intro i x3 hf hi hv
      exact absurd hf (by omega)
    | succ n5 ih5 =>
      intro i x3 hf hi hv ls hl
      refine lv_iload hx hb dX1_leadsTo_5 (lv_at hl 4 rfl) ?_
      refine lv_bipush (v := 110) hx hb dX1_leadsTo_7 (by decide) ?_
      refine lv_icmp_ge (tgt := 38) hx hb dX1_leadsTo_9 (by decide) (fun c_1 => ?_) (fun c_1 => ?_)
      · have hE : x3 = xch S b 110 t := by
          have h7 : 110 ≤ i := (nI_leI (a := 110) (b := i) (by omega) (by omega)).mp c_1
          rw [show 110 - i = 0 by omega] at hv
          exact hv
        refine lv_iload_n hx hb dX1_leadsTo_38 rfl (lv_at hl 3 rfl) ?_
        refine lv_iload_n hx hb dX1_leadsTo_39 rfl (lv_at hl 2 rfl) ?_
        refine lv_icmp_ne (tgt := 47) hx hb dX1_leadsTo_40 (by decide) (fun c_2 => ?_) (fun c_2 => ?_)
        · refine lv_iconst (v := 0) hx hb dX1_leadsTo_47 (by decide) ?_
          exact W.zret (v := 0) hx hb hr rfl (fun t9 ht hW => ⟨0, rfl, (Or.inr ⟨rfl, fun h7 => c_2 (hE.trans h7)⟩), ht⟩) (fun _ h => by cases h) dX1_leadsTo_48
        · refine lv_iconst (v := 1) hx hb dX1_leadsTo_43 (by decide) ?_
          refine lv_goto (tgt := 48) hx hb dX1_leadsTo_44 (by decide) ?_
          exact W.zret (v := 1) hx hb hr rfl (fun t9 ht hW => ⟨1, rfl, (Or.inl ⟨rfl, hE.symm.trans c_2⟩), ht⟩) (fun _ h => by cases h) dX1_leadsTo_48
      · have hi2 : i < 110 := Nat.lt_of_not_le (fun h8 => c_1 ((nI_leI (a := 110) (b := i) (by omega) (by omega)).mpr h8))
        rw [show 110 - i = (110 - (i + 1)) + 1 by omega, xch] at hv
        refine lv_iload_n hx hb dX1_leadsTo_12 rfl (lv_at hl 3 rfl) ?_
        refine lv_iload_n hx hb dX1_leadsTo_13 rfl (lv_at hl 2 rfl) ?_
        refine lv_icmp_eq (tgt := 38) hx hb dX1_leadsTo_14 (by decide) (fun c_3 => ?_) (fun c_3 => ?_)
        · have hE : x3 = xch S b 110 t := by
            rw [cif_f (fun h7 => h7.1 c_3)] at hv
            exact hv
          refine lv_iload_n hx hb dX1_leadsTo_38 rfl (lv_at hl 3 rfl) ?_
          refine lv_iload_n hx hb dX1_leadsTo_39 rfl (lv_at hl 2 rfl) ?_
          refine lv_icmp_ne (tgt := 47) hx hb dX1_leadsTo_40 (by decide) (fun c_4 => absurd c_3 c_4) (fun c_4 => ?_)
          refine lv_iconst (v := 1) hx hb dX1_leadsTo_43 (by decide) ?_
          refine lv_goto (tgt := 48) hx hb dX1_leadsTo_44 (by decide) ?_
          exact W.zret (v := 1) hx hb hr rfl (fun t9 ht hW => ⟨1, rfl, (Or.inl ⟨rfl, hE.symm.trans c_3⟩), ht⟩) (fun _ h => by cases h) dX1_leadsTo_48
        · refine lv_aload_n hx hb dX1_leadsTo_17 rfl (lv_at hl 0 rfl) ?_
          refine lv_iload_n hx hb dX1_leadsTo_18 rfl (lv_at hl 3 rfl) ?_
          refine vp_callSi (W.runV (As := [.int x3]) (rest := []) ⟨hx, hb, hml, hown, hts⟩ (c_X1_isCase l D kI kJ kL a q S N F B x3 hn) (cwV 1 hts gX1_leadsTo_X1_isCase rfl rfl rfl (by decide +kernel) ⟨Nat.le_of_ble_eq_true rfl, Nat.le_of_ble_eq_true rfl⟩) (q_rV (w2 := []) hK hN (by rw [List.append_nil]; exact hP) (va_recv hK hP (ci := 4) (q0 := 0) rfl rfl)) rfl rfl hl.1 rfl (lv_room (Nat.le_of_ble_eq_true rfl)) dX1_leadsTo_19 ⟨Nat.le_of_ble_eq_true rfl, Nat.le_of_ble_eq_true rfl⟩) (fun r_h_5 h_5 => ?_)
          rcases h_5 with ⟨rfl, h_5⟩ | ⟨rfl, h_5⟩
          · rw [cif_t ⟨c_3, h_5⟩] at hv
            refine lv_if_eq (tgt := 38) hx hb dX1_leadsTo_22 (by decide) (fun c_6 => absurd c_6 (by decide)) (fun c_6 => ?_)
            refine lv_aload_n hx hb dX1_leadsTo_25 rfl (lv_at hl 0 rfl) ?_
            refine va_get (D := D) (ci := 4) (v := .ref (a 4)) (C := RX1) (T := TX1) (N := 9) hx hb hts hinX1 hown hK hP 0 rfl rfl 3 (by decide) (hts (.fieldLink RX1 19 "LoanCases" "holds" "[I") (by decide +kernel)) (fun _ h9 => h9) rfl dX1_leadsTo_26 ?_
            refine lv_iload_n hx hb dX1_leadsTo_29 rfl (lv_at hl 3 rfl) ?_
            refine va_iald (f := S 3) hx hb hK hP 4 0 rfl rfl (xT_in hn h_5.1) dX1_leadsTo_30 ?_
            refine lv_topi (fun x_7 ex_7 => ?_)
            refine lv_istore_n (lv' := [(3, .int x_7), (0, .ref (a 0)), (1, .int t), (2, .int b), (4, .int (nI i))]) hx hb dX1_leadsTo_31 rfl hl (by decide) rfl (fun ls hl => ?_)
            obtain ⟨x_8, ex_8⟩ : ∃ y : Int32, y = (nI i) + (1) := ⟨_, rfl⟩
            refine lv_iinc (v := x_8) (lv' := [(4, .int x_8), (3, .int x_7), (0, .ref (a 0)), (1, .int t), (2, .int b)]) hx hb dX1_leadsTo_32 hl (k := 4) rfl (by rw [ex_8]; rfl) (by decide) rfl (fun ls hl => ?_)
            refine lv_goto (tgt := 5) hx hb dX1_leadsTo_35 (by decide) ?_
            rw [show x_8 = nI (i + 1) from (ex_8).trans (nI_1 i)] at hl
            skip
            exact ih5 (i + 1) x_7 (by omega) (by omega) (by rw [ex_7]; exact hv) ls (lv_sub hl [2, 3, 4, 1, 0] rfl)
          · have hE : x3 = xch S b 110 t := by
              rw [cif_f (fun h7 => h_5 h7.2)] at hv
              exact hv
            refine lv_if_eq (tgt := 38) hx hb dX1_leadsTo_22 (by decide) (fun c_9 => ?_) (fun c_9 => absurd c_9 (by decide))
            refine lv_iload_n hx hb dX1_leadsTo_38 rfl (lv_at hl 3 rfl) ?_
            refine lv_iload_n hx hb dX1_leadsTo_39 rfl (lv_at hl 2 rfl) ?_
            refine lv_icmp_ne (tgt := 47) hx hb dX1_leadsTo_40 (by decide) (fun c_10 => ?_) (fun c_10 => absurd c_10 c_3)
            refine lv_iconst (v := 0) hx hb dX1_leadsTo_47 (by decide) ?_
            exact W.zret (v := 0) hx hb hr rfl (fun t9 ht hW => ⟨0, rfl, (Or.inr ⟨rfl, fun h7 => c_3 (hE.trans h7)⟩), ht⟩) (fun _ h => by cases h) dX1_leadsTo_48
  exact loop5 111 0 t (by omega) (by omega) rfl ls (lv_sub hl [2, 3, 4, 1, 0] rfl)

set_option maxHeartbeats 4000000 in
set_option maxRecDepth 100000 in
theorem c_X1_innermostOf (l : Launch) (D : va_G) (kI kJ kL : ClassId) (a q : Nat → Nat) (S : Nat → Nat → Int32) (N : Nat → Nat → Nat → Int32) (F : Nat → Option Nat) (B : Nat) (b : Int32) (hn : (S 6 0).toInt ≤ 110) (hbI : vp_in b 110) : Met l yX1_innermostOf wsX1_innermostOf ({ frames := 2, cells := 0, slots := 0, locals := 42 }) (q_rP D (xTY kI kJ kL) (xW kI kL a q S N F B) [.ref (a 0), .int b]) (vp_Si (fun r => r = xin S 110 (S 3 b.toNatClampNeg))) 0 0 (fun _ => False) := by
  refine Met.ofW (cc := cX1_innermostOf) (maxL := 4) (ret := (some .int)) (by decide) rfl ?_
  intro p e s m args below meth c s₁ Bd hml hv
  obtain ⟨rfl, hP, hK, hN⟩ := hv
  have hx := Bd.exec
  have hb := Bd.bytes
  have hr := Bd.returns
  have hts := atoms_spec (ws := wsX1_innermostOf) Bd.pre
  have hown : s.vm.findClass RX1 = some m.cls := findClass_of_methodNamed Bd.named
  have hlocks := Bd.notSynchronized
  have hl := lv_entry ([.ref (a 0), .int b]) (n := 4) (Nat.le_of_ble_eq_true rfl)
  rw [lg_entry_eq]
  generalize (lg_sl ([.ref (a 0), .int b]) ++ List.replicate (4 - (lg_sl ([.ref (a 0), .int b])).length) Slot.unset).toArray = ls at hl ⊢
  have hl : lv_has ls 4 [(0, .ref (a 0)), (1, .int b)] := hl
  have hinX1 : ∀ w ∈ u_ws RX1 TX1 9, w ∈ wsX1_innermostOf := by decide +kernel
  refine lv_aload_n hx hb dX1_innermostOf_0 rfl (lv_at hl 0 rfl) ?_
  refine va_get (D := D) (ci := 4) (v := .ref (a 4)) (C := RX1) (T := TX1) (N := 9) hx hb hts hinX1 hown hK hP 0 rfl rfl 3 (by decide) (hts (.fieldLink RX1 19 "LoanCases" "holds" "[I") (by decide +kernel)) (fun _ h9 => h9) rfl dX1_innermostOf_1 ?_
  refine lv_iload_n hx hb dX1_innermostOf_4 rfl (lv_at hl 1 rfl) ?_
  refine va_iald (f := S 3) hx hb hK hP 4 0 rfl rfl hbI dX1_innermostOf_5 ?_
  refine lv_topi (fun x_1 ex_1 => ?_)
  refine lv_istore_n (lv' := [(2, .int x_1), (0, .ref (a 0)), (1, .int b)]) hx hb dX1_innermostOf_6 rfl hl (by decide) rfl (fun ls hl => ?_)
  refine lv_iconst (v := 0) hx hb dX1_innermostOf_7 (by decide) ?_
  refine lv_istore_n (lv' := [(3, .int 0), (2, .int x_1), (0, .ref (a 0)), (1, .int b)]) hx hb dX1_innermostOf_8 rfl hl (by decide) rfl (fun ls hl => ?_)
  have loop9 : ∀ (n9 : Nat) (i : Nat) (x3 : Int32), (111 ≤ i + n9) → (i ≤ 110) → (xin S (110 - i) x3 = xin S 110 (S 3 b.toNatClampNeg)) → ∀ (ls : Array Slot), lv_has ls 4 [(0, .ref (a 0)), (1, .int b), (2, .int x3), (3, .int (nI i))] → W p l e ({ frames := 2, cells := 0, slots := 0, locals := 42 }) s m ([.ref (a 0), .int b] : List Value).toArray below meth c s.heap [] 0 0 (MQ below (vp_Si (fun r => r = xin S 110 (S 3 b.toNatClampNeg))) ([.ref (a 0), .int b] : List Value).toArray s 0 0 (fun _ => False)) (F0 m 9 ls []) := by
    intro n9
    induction n9 with
    | zero =>
      intro i x3 hf hi hv
      exact absurd hf (by omega)
    | succ n9 ih9 =>
      intro i x3 hf hi hv ls hl
      refine lv_iload_n hx hb dX1_innermostOf_9 rfl (lv_at hl 3 rfl) ?_
      refine lv_bipush (v := 110) hx hb dX1_innermostOf_10 (by decide) ?_
      refine lv_icmp_ge (tgt := 36) hx hb dX1_innermostOf_12 (by decide) (fun c_2 => ?_) (fun c_2 => ?_)
      · have hE : x3 = xin S 110 (S 3 b.toNatClampNeg) := by
          have h7 : 110 ≤ i := (nI_leI (a := 110) (b := i) (by omega) (by omega)).mp c_2
          rw [show 110 - i = 0 by omega] at hv
          exact hv
        refine lv_iload_n hx hb dX1_innermostOf_36 rfl (lv_at hl 2 rfl) ?_
        exact W.iret (v := x3) hx hb hr (fun t9 ht hW => ⟨x3, rfl, hE, ht⟩) (fun _ h => by cases h) dX1_innermostOf_37
      · have hi2 : i < 110 := Nat.lt_of_not_le (fun h8 => c_2 ((nI_leI (a := 110) (b := i) (by omega) (by omega)).mpr h8))
        rw [show 110 - i = (110 - (i + 1)) + 1 by omega, xin] at hv
        refine lv_aload_n hx hb dX1_innermostOf_15 rfl (lv_at hl 0 rfl) ?_
        refine lv_iload_n hx hb dX1_innermostOf_16 rfl (lv_at hl 2 rfl) ?_
        refine vp_callSi (W.runV (As := [.int x3]) (rest := []) ⟨hx, hb, hml, hown, hts⟩ (c_X1_isCase l D kI kJ kL a q S N F B x3 hn) (cwV 1 hts gX1_innermostOf_X1_isCase rfl rfl rfl (by decide +kernel) ⟨Nat.le_of_ble_eq_true rfl, Nat.le_of_ble_eq_true rfl⟩) (q_rV (w2 := []) hK hN (by rw [List.append_nil]; exact hP) (va_recv hK hP (ci := 4) (q0 := 0) rfl rfl)) rfl rfl hl.1 rfl (lv_room (Nat.le_of_ble_eq_true rfl)) dX1_innermostOf_17 ⟨Nat.le_of_ble_eq_true rfl, Nat.le_of_ble_eq_true rfl⟩) (fun r_h_3 h_3 => ?_)
        rcases h_3 with ⟨rfl, h_3⟩ | ⟨rfl, h_3⟩
        · rw [cif_t h_3] at hv
          refine lv_if_eq (tgt := 36) hx hb dX1_innermostOf_20 (by decide) (fun c_4 => absurd c_4 (by decide)) (fun c_4 => ?_)
          refine lv_aload_n hx hb dX1_innermostOf_23 rfl (lv_at hl 0 rfl) ?_
          refine va_get (D := D) (ci := 4) (v := .ref (a 4)) (C := RX1) (T := TX1) (N := 9) hx hb hts hinX1 hown hK hP 0 rfl rfl 3 (by decide) (hts (.fieldLink RX1 19 "LoanCases" "holds" "[I") (by decide +kernel)) (fun _ h9 => h9) rfl dX1_innermostOf_24 ?_
          refine lv_iload_n hx hb dX1_innermostOf_27 rfl (lv_at hl 2 rfl) ?_
          refine va_iald (f := S 3) hx hb hK hP 4 0 rfl rfl (xT_in hn h_3.1) dX1_innermostOf_28 ?_
          refine lv_topi (fun x_5 ex_5 => ?_)
          refine lv_istore_n (lv' := [(2, .int x_5), (0, .ref (a 0)), (1, .int b), (3, .int (nI i))]) hx hb dX1_innermostOf_29 rfl hl (by decide) rfl (fun ls hl => ?_)
          obtain ⟨x_6, ex_6⟩ : ∃ y : Int32, y = (nI i) + (1) := ⟨_, rfl⟩
          refine lv_iinc (v := x_6) (lv' := [(3, .int x_6), (2, .int x_5), (0, .ref (a 0)), (1, .int b)]) hx hb dX1_innermostOf_30 hl (k := 3) rfl (by rw [ex_6]; rfl) (by decide) rfl (fun ls hl => ?_)
          refine lv_goto (tgt := 9) hx hb dX1_innermostOf_33 (by decide) ?_
          rw [show x_6 = nI (i + 1) from (ex_6).trans (nI_1 i)] at hl
          exact ih9 (i + 1) x_5 (by omega) (by omega) (by rw [ex_5]; exact hv) ls (lv_sub hl [2, 3, 1, 0] rfl)
        · have hE : x3 = xin S 110 (S 3 b.toNatClampNeg) := by
            rw [cif_f h_3] at hv
            exact hv
          refine lv_if_eq (tgt := 36) hx hb dX1_innermostOf_20 (by decide) (fun c_7 => ?_) (fun c_7 => absurd c_7 (by decide))
          refine lv_iload_n hx hb dX1_innermostOf_36 rfl (lv_at hl 2 rfl) ?_
          exact W.iret (v := x3) hx hb hr (fun t9 ht hW => ⟨x3, rfl, hE, ht⟩) (fun _ h => by cases h) dX1_innermostOf_37
  exact loop9 111 0 x_1 (by omega) (by omega) (by rw [ex_1]) ls (lv_sub hl [2, 3, 1, 0] rfl)

set_option maxHeartbeats 4000000 in
set_option maxRecDepth 100000 in
theorem c_X1_countCases (l : Launch) (D : va_G) (kI kJ kL : ClassId) (a q : Nat → Nat) (S : Nat → Nat → Int32) (N : Nat → Nat → Nat → Int32) (F : Nat → Option Nat) (B : Nat) (f : Int32) (n : Nat) (hn6 : S 6 0 = nI n) (hn : n ≤ 110) : Met l yX1_countCases wsX1_countCases ({ frames := 0, cells := 0, slots := 0, locals := 0 }) (q_rP D (xTY kI kJ kL) (xW kI kL a q S N F B) [.ref (a 0), .int f]) (vp_Si (fun r => r = xcc S f n)) 0 0 (fun _ => False) := by
  refine Met.ofW (cc := cX1_countCases) (maxL := 4) (ret := (some .int)) (by decide) rfl ?_
  intro p e s m args below meth c s₁ Bd hml hv
  obtain ⟨rfl, hP, hK, hN⟩ := hv
  have hx := Bd.exec
  have hb := Bd.bytes
  have hr := Bd.returns
  have hts := atoms_spec (ws := wsX1_countCases) Bd.pre
  have hown : s.vm.findClass RX1 = some m.cls := findClass_of_methodNamed Bd.named
  have hlocks := Bd.notSynchronized
  have hl := lv_entry ([.ref (a 0), .int f]) (n := 4) (Nat.le_of_ble_eq_true rfl)
  rw [lg_entry_eq]
  generalize (lg_sl ([.ref (a 0), .int f]) ++ List.replicate (4 - (lg_sl ([.ref (a 0), .int f])).length) Slot.unset).toArray = ls at hl ⊢
  have hl : lv_has ls 4 [(0, .ref (a 0)), (1, .int f)] := hl
  have hinX1 : ∀ w ∈ u_ws RX1 TX1 9, w ∈ wsX1_countCases := by decide +kernel
  refine lv_iconst (v := 0) hx hb dX1_countCases_0 (by decide) ?_
  refine lv_istore_n (lv' := [(2, .int 0), (0, .ref (a 0)), (1, .int f)]) hx hb dX1_countCases_1 rfl hl (by decide) rfl (fun ls hl => ?_)
  refine lv_iconst (v := 0) hx hb dX1_countCases_2 (by decide) ?_
  refine lv_istore_n (lv' := [(3, .int 0), (2, .int 0), (0, .ref (a 0)), (1, .int f)]) hx hb dX1_countCases_3 rfl hl (by decide) rfl (fun ls hl => ?_)
  have loop4 : ∀ (n4 : Nat) (i : Nat) (x2 : Int32), (n + 1 ≤ i + n4) → (i ≤ n) → (x2 = xcc S f i) → ∀ (ls : Array Slot), lv_has ls 4 [(0, .ref (a 0)), (1, .int f), (2, .int x2), (3, .int (nI i))] → W p l e ({ frames := 0, cells := 0, slots := 0, locals := 0 }) s m ([.ref (a 0), .int f] : List Value).toArray below meth c s.heap [] 0 0 (MQ below (vp_Si (fun r => r = xcc S f n)) ([.ref (a 0), .int f] : List Value).toArray s 0 0 (fun _ => False)) (F0 m 4 ls []) := by
    intro n4
    induction n4 with
    | zero =>
      intro i x2 hf hi hv
      exact absurd hf (by omega)
    | succ n4 ih4 =>
      intro i x2 hf hi hv ls hl
      refine lv_iload_n hx hb dX1_countCases_4 rfl (lv_at hl 3 rfl) ?_
      refine lv_aload_n hx hb dX1_countCases_5 rfl (lv_at hl 0 rfl) ?_
      refine va_get (D := D) (ci := 4) (v := .int (S 6 0)) (C := RX1) (T := TX1) (N := 9) hx hb hts hinX1 hown hK hP 0 rfl rfl 5 (by decide) (hts (.fieldLink RX1 38 "LoanCases" "things" "I") (by decide +kernel)) (fun _ h9 => h9) rfl dX1_countCases_6 ?_
      refine lv_icmp_ge (tgt := 47) hx hb dX1_countCases_9 (by decide) (fun c_1 => ?_) (fun c_1 => ?_)
      · rw [hn6] at c_1
        have hi2 : n ≤ i := (nI_leI (a := n) (b := i) (by omega) (by omega)).mp c_1
        refine lv_iload_n hx hb dX1_countCases_47 rfl (lv_at hl 2 rfl) ?_
        exact W.iret (v := x2) hx hb hr (fun t9 ht hW => ⟨x2, rfl, (by rw [hv, show i = n by omega]), ht⟩) (fun _ h => by cases h) dX1_countCases_48
      · rw [hn6] at c_1
        have hi2 : i < n := Nat.lt_of_not_le (fun h8 => c_1 ((nI_leI (a := n) (b := i) (by omega) (by omega)).mpr h8))
        have hin : vp_in (nI i) 110 := vp_in_nI (by omega) (by omega)
        have hcl : (nI i).toNatClampNeg = i := nI_clamp (by omega)
        refine lv_aload_n hx hb dX1_countCases_12 rfl (lv_at hl 0 rfl) ?_
        refine va_get (D := D) (ci := 4) (v := .ref (a 1)) (C := RX1) (T := TX1) (N := 9) hx hb hts hinX1 hown hK hP 0 rfl rfl 0 (by decide) (hts (.fieldLink RX1 9 "LoanCases" "forms" "[I") (by decide +kernel)) (fun _ h9 => h9) rfl dX1_countCases_13 ?_
        refine lv_iload_n hx hb dX1_countCases_16 rfl (lv_at hl 3 rfl) ?_
        refine va_iald (f := S 0) hx hb hK hP 1 0 rfl rfl hin dX1_countCases_17 ?_
        refine lv_bipush (v := 18) hx hb dX1_countCases_18 (by decide) ?_
        refine lv_icmp_ne (tgt := 41) hx hb dX1_countCases_20 (by decide) (fun c_2 => ?_) (fun c_2 => ?_)
        · rw [hcl] at c_2
          obtain ⟨x_3, ex_3⟩ : ∃ y : Int32, y = (nI i) + (1) := ⟨_, rfl⟩
          refine lv_iinc (v := x_3) (lv' := [(3, .int x_3), (0, .ref (a 0)), (1, .int f), (2, .int x2)]) hx hb dX1_countCases_41 hl (k := 3) rfl (by rw [ex_3]; rfl) (by decide) rfl (fun ls hl => ?_)
          refine lv_goto (tgt := 4) hx hb dX1_countCases_44 (by decide) ?_
          rw [show x_3 = nI (i + 1) from (ex_3).trans (nI_1 i)] at hl
          skip
          exact ih4 (i + 1) x2 (by omega) (by omega) (by rw [hv, xcc, cif_f (fun h7 => c_2 h7.1)]) ls (lv_sub hl [1, 2, 3, 0] rfl)
        · rw [hcl] at c_2
          refine lv_iload_n hx hb dX1_countCases_23 rfl (lv_at hl 1 rfl) ?_
          refine lv_if_eq (tgt := 38) hx hb dX1_countCases_24 (by decide) (fun c_4 => ?_) (fun c_4 => ?_)
          · obtain ⟨x_5, ex_5⟩ : ∃ y : Int32, y = x2 + (1) := ⟨_, rfl⟩
            refine lv_iinc (v := x_5) (lv' := [(2, .int x_5), (0, .ref (a 0)), (1, .int f), (3, .int (nI i))]) hx hb dX1_countCases_38 hl (k := 2) rfl (by rw [ex_5]; rfl) (by decide) rfl (fun ls hl => ?_)
            obtain ⟨x_6, ex_6⟩ : ∃ y : Int32, y = (nI i) + (1) := ⟨_, rfl⟩
            refine lv_iinc (v := x_6) (lv' := [(3, .int x_6), (2, .int x_5), (0, .ref (a 0)), (1, .int f)]) hx hb dX1_countCases_41 hl (k := 3) rfl (by rw [ex_6]; rfl) (by decide) rfl (fun ls hl => ?_)
            refine lv_goto (tgt := 4) hx hb dX1_countCases_44 (by decide) ?_
            rw [show x_6 = nI (i + 1) from (ex_6).trans (nI_1 i)] at hl
            skip
            exact ih4 (i + 1) x_5 (by omega) (by omega) (by rw [ex_5, hv, xcc, cif_t ⟨c_2, Or.inl c_4⟩]) ls (lv_sub hl [2, 3, 1, 0] rfl)
          · refine lv_aload_n hx hb dX1_countCases_27 rfl (lv_at hl 0 rfl) ?_
            refine va_get (D := D) (ci := 4) (v := .ref (a 4)) (C := RX1) (T := TX1) (N := 9) hx hb hts hinX1 hown hK hP 0 rfl rfl 3 (by decide) (hts (.fieldLink RX1 19 "LoanCases" "holds" "[I") (by decide +kernel)) (fun _ h9 => h9) rfl dX1_countCases_28 ?_
            refine lv_iload_n hx hb dX1_countCases_31 rfl (lv_at hl 3 rfl) ?_
            refine va_iald (f := S 3) hx hb hK hP 4 0 rfl rfl hin dX1_countCases_32 ?_
            refine lv_bipush (v := -5) hx hb dX1_countCases_33 (by decide) ?_
            refine lv_icmp_eq (tgt := 41) hx hb dX1_countCases_35 (by decide) (fun c_7 => ?_) (fun c_7 => ?_)
            · rw [hcl] at c_7
              obtain ⟨x_8, ex_8⟩ : ∃ y : Int32, y = (nI i) + (1) := ⟨_, rfl⟩
              refine lv_iinc (v := x_8) (lv' := [(3, .int x_8), (0, .ref (a 0)), (1, .int f), (2, .int x2)]) hx hb dX1_countCases_41 hl (k := 3) rfl (by rw [ex_8]; rfl) (by decide) rfl (fun ls hl => ?_)
              refine lv_goto (tgt := 4) hx hb dX1_countCases_44 (by decide) ?_
              rw [show x_8 = nI (i + 1) from (ex_8).trans (nI_1 i)] at hl
              skip
              exact ih4 (i + 1) x2 (by omega) (by omega) (by rw [hv, xcc, cif_f (fun h7 => h7.2.elim c_4 (fun h6 => h6 c_7))]) ls (lv_sub hl [1, 2, 3, 0] rfl)
            · rw [hcl] at c_7
              obtain ⟨x_9, ex_9⟩ : ∃ y : Int32, y = x2 + (1) := ⟨_, rfl⟩
              refine lv_iinc (v := x_9) (lv' := [(2, .int x_9), (0, .ref (a 0)), (1, .int f), (3, .int (nI i))]) hx hb dX1_countCases_38 hl (k := 2) rfl (by rw [ex_9]; rfl) (by decide) rfl (fun ls hl => ?_)
              obtain ⟨x_10, ex_10⟩ : ∃ y : Int32, y = (nI i) + (1) := ⟨_, rfl⟩
              refine lv_iinc (v := x_10) (lv' := [(3, .int x_10), (2, .int x_9), (0, .ref (a 0)), (1, .int f)]) hx hb dX1_countCases_41 hl (k := 3) rfl (by rw [ex_10]; rfl) (by decide) rfl (fun ls hl => ?_)
              refine lv_goto (tgt := 4) hx hb dX1_countCases_44 (by decide) ?_
              rw [show x_10 = nI (i + 1) from (ex_10).trans (nI_1 i)] at hl
              skip
              exact ih4 (i + 1) x_9 (by omega) (by omega) (by rw [ex_9, hv, xcc, cif_t ⟨c_2, Or.inr c_7⟩]) ls (lv_sub hl [2, 3, 1, 0] rfl)
  exact loop4 (n + 1) 0 0 (by omega) (by omega) rfl ls (lv_sub hl [2, 3, 1, 0] rfl)

set_option maxHeartbeats 4000000 in
set_option maxRecDepth 100000 in
theorem c_X1_loanOf (l : Launch) (D : va_G) (kI kJ kL : ClassId) (a q : Nat → Nat) (S : Nat → Nat → Int32) (N : Nat → Nat → Nat → Int32) (F : Nat → Option Nat) (B : Nat) (j : Int32) (hb7 : S 7 0 = nI B) (hB : B ≤ 8) (hF : ∀ j, j < B → F j = some (q (4 * j))) : Met l yX1_loanOf wsX1_loanOf ({ frames := 0, cells := 0, slots := 0, locals := 0 }) (q_rP D (xTY kI kJ kL) (xW kI kL a q S N F B) [.ref (a 0), .int j]) (va_Sq (fun r => (r = none ∧ ¬ xLn S j) ∨ (r = some (q (4 * j.toNatClampNeg)) ∧ xLn S j ∧ j.toNatClampNeg < B))) 0 0 (fun _ => False) := by
  refine Met.ofW (cc := cX1_loanOf) (maxL := 2) (ret := (some (.object "LoanCases$Loan"))) (by decide) rfl ?_
  intro p e s m args below meth c s₁ Bd hml hv
  obtain ⟨rfl, hP, hK, hN⟩ := hv
  have hx := Bd.exec
  have hb := Bd.bytes
  have hr := Bd.returns
  have hts := atoms_spec (ws := wsX1_loanOf) Bd.pre
  have hown : s.vm.findClass RX1 = some m.cls := findClass_of_methodNamed Bd.named
  have hlocks := Bd.notSynchronized
  have hl := lv_entry ([.ref (a 0), .int j]) (n := 2) (Nat.le_of_ble_eq_true rfl)
  rw [lg_entry_eq]
  generalize (lg_sl ([.ref (a 0), .int j]) ++ List.replicate (2 - (lg_sl ([.ref (a 0), .int j])).length) Slot.unset).toArray = ls at hl ⊢
  have hl : lv_has ls 2 [(0, .ref (a 0)), (1, .int j)] := hl
  have hinX1 : ∀ w ∈ u_ws RX1 TX1 9, w ∈ wsX1_loanOf := by decide +kernel
  refine lv_iload_n hx hb dX1_loanOf_0 rfl (lv_at hl 1 rfl) ?_
  refine lv_if_lt (tgt := 21) hx hb dX1_loanOf_1 (by decide) (fun c_1 => ?_) (fun c_1 => ?_)
  · refine lv_null hx hb dX1_loanOf_21 ?_
    exact W.aret (v := .null) hx hb hr (Or.inl ⟨_, rfl⟩) (Or.inl rfl) (fun t9 ht hW => ⟨none, rfl, (Or.inl ⟨rfl, fun h7 => h7.1 c_1⟩), ht⟩) (fun _ h => by cases h) dX1_loanOf_22
  · refine lv_iload_n hx hb dX1_loanOf_4 rfl (lv_at hl 1 rfl) ?_
    refine lv_aload_n hx hb dX1_loanOf_5 rfl (lv_at hl 0 rfl) ?_
    refine va_get (D := D) (ci := 4) (v := .int (S 7 0)) (C := RX1) (T := TX1) (N := 9) hx hb hts hinX1 hown hK hP 0 rfl rfl 7 (by decide) (hts (.fieldLink RX1 99 "LoanCases" "begun" "I") (by decide +kernel)) (fun _ h9 => h9) rfl dX1_loanOf_6 ?_
    refine lv_icmp_ge (tgt := 21) hx hb dX1_loanOf_9 (by decide) (fun c_2 => ?_) (fun c_2 => ?_)
    · refine lv_null hx hb dX1_loanOf_21 ?_
      exact W.aret (v := .null) hx hb hr (Or.inl ⟨_, rfl⟩) (Or.inl rfl) (fun t9 ht hW => ⟨none, rfl, (Or.inl ⟨rfl, fun h7 => h7.2 c_2⟩), ht⟩) (fun _ h => by cases h) dX1_loanOf_22
    · refine lv_aload_n hx hb dX1_loanOf_12 rfl (lv_at hl 0 rfl) ?_
      refine va_get (D := D) (ci := 4) (v := .ref (a 6)) (C := RX1) (T := TX1) (N := 9) hx hb hts hinX1 hown hK hP 0 rfl rfl 6 (by decide) (hts (.fieldLink RX1 27 "LoanCases" "loans" "[LLoanCases$Loan;") (by decide +kernel)) (fun _ h9 => h9) rfl dX1_loanOf_13 ?_
      refine lv_iload_n hx hb dX1_loanOf_16 rfl (lv_at hl 1 rfl) ?_
      have hxl : xLn S j := ⟨c_1, c_2⟩
      rw [hb7] at c_2
      obtain ⟨k, hk, hjk⟩ : ∃ k : Nat, k < B ∧ j = nI k := by
        rcases pk_ix j (n := B) (by omega) with h | h | h
        · exact absurd h c_1
        · exact absurd h c_2
        · exact h
      refine va_aldq hx hb hK hP 6 2 rfl rfl (by rw [hjk]; exact vp_in_nI (by omega) (by omega)) dX1_loanOf_17 ?_
      have hkc : j.toNatClampNeg = k := by rw [hjk]; exact nI_clamp (by omega)
      rw [hF j.toNatClampNeg (by omega)]
      refine lv_goto (tgt := 22) hx hb dX1_loanOf_18 (by decide) ?_
      exact W.aret (v := .ref (q (4 * j.toNatClampNeg))) hx hb hr (Or.inl ⟨_, rfl⟩) (Or.inr ⟨_, rfl⟩) (fun t9 ht hW => ⟨some (q (4 * j.toNatClampNeg)), rfl, (Or.inr ⟨rfl, hxl, by omega⟩), ht⟩) (fun _ h => by cases h) dX1_loanOf_22

set_option maxHeartbeats 4000000 in
set_option maxRecDepth 100000 in
theorem c_X0_loaded (l : Launch) (D : va_G) (kI kJ kL : ClassId) (a q : Nat → Nat) (S : Nat → Nat → Int32) (N : Nat → Nat → Nat → Int32) (F : Nat → Option Nat) (B : Nat) (j : Nat) (hj : j < B) : Met l yX0_loaded wsX0_loaded ({ frames := 0, cells := 0, slots := 0, locals := 0 }) (q_rP D (xTY kI kJ kL) (xW kI kL a q S N F B) [.ref (q (4 * j))]) (vp_Si (fun r => r = xld N j 8)) 0 0 (fun _ => False) := by
  refine Met.ofW (cc := cX0_loaded) (maxL := 3) (ret := (some .int)) (by decide) rfl ?_
  intro p e s m args below meth c s₁ Bd hml hv
  obtain ⟨rfl, hP, hK, hN⟩ := hv
  have hx := Bd.exec
  have hb := Bd.bytes
  have hr := Bd.returns
  have hts := atoms_spec (ws := wsX0_loaded) Bd.pre
  have hown : s.vm.findClass RX0 = some m.cls := findClass_of_methodNamed Bd.named
  have hlocks := Bd.notSynchronized
  have hl := lv_entry ([.ref (q (4 * j))]) (n := 3) (Nat.le_of_ble_eq_true rfl)
  rw [lg_entry_eq]
  generalize (lg_sl ([.ref (q (4 * j))]) ++ List.replicate (3 - (lg_sl ([.ref (q (4 * j))])).length) Slot.unset).toArray = ls at hl ⊢
  have hl : lv_has ls 3 [(0, .ref (q (4 * j)))] := hl
  have hinX0 : ∀ w ∈ u_ws RX0 TX0 6, w ∈ wsX0_loaded := by decide +kernel
  refine lv_iconst (v := 0) hx hb dX0_loaded_0 (by decide) ?_
  refine lv_istore_n (lv' := [(1, .int 0), (0, .ref (q (4 * j)))]) hx hb dX0_loaded_1 rfl hl (by decide) rfl (fun ls hl => ?_)
  refine lv_iconst (v := 0) hx hb dX0_loaded_2 (by decide) ?_
  refine lv_istore_n (lv' := [(2, .int 0), (1, .int 0), (0, .ref (q (4 * j)))]) hx hb dX0_loaded_3 rfl hl (by decide) rfl (fun ls hl => ?_)
  have loop4 : ∀ (n4 : Nat) (i : Nat) (x1 : Int32), (9 ≤ i + n4) → (i ≤ 8) → (x1 = xld N j i) → ∀ (ls : Array Slot), lv_has ls 3 [(0, .ref (q (4 * j))), (1, .int x1), (2, .int (nI i))] → W p l e ({ frames := 0, cells := 0, slots := 0, locals := 0 }) s m ([.ref (q (4 * j))] : List Value).toArray below meth c s.heap [] 0 0 (MQ below (vp_Si (fun r => r = xld N j 8)) ([.ref (q (4 * j))] : List Value).toArray s 0 0 (fun _ => False)) (F0 m 4 ls []) := by
    intro n4
    induction n4 with
    | zero =>
      intro i x1 hf hi hv
      exact absurd hf (by omega)
    | succ n4 ih4 =>
      intro i x1 hf hi hv ls hl
      refine lv_iload_n hx hb dX0_loaded_4 rfl (lv_at hl 2 rfl) ?_
      refine lv_bipush (v := 8) hx hb dX0_loaded_5 (by decide) ?_
      refine lv_icmp_ge (tgt := 30) hx hb dX0_loaded_7 (by decide) (fun c_1 => ?_) (fun c_1 => ?_)
      · have hi2 : 8 ≤ i := (nI_leI (a := 8) (b := i) (by omega) (by omega)).mp c_1
        refine lv_iload_n hx hb dX0_loaded_30 rfl (lv_at hl 1 rfl) ?_
        exact W.iret (v := x1) hx hb hr (fun t9 ht hW => ⟨x1, rfl, (by rw [hv, show i = 8 by omega]), ht⟩) (fun _ h => by cases h) dX0_loaded_31
      · have hi2 : i < 8 := Nat.lt_of_not_le (fun h8 => c_1 ((nI_leI (a := 8) (b := i) (by omega) (by omega)).mpr h8))
        have hin : vp_in (nI i) 8 := vp_in_nI (by omega) (by omega)
        have hcl : (nI i).toNatClampNeg = i := nI_clamp (by omega)
        refine lv_aload_n hx hb dX0_loaded_10 rfl (lv_at hl 0 rfl) ?_
        refine va_get (D := D) (ci := 3) (v := .ref (q (4 * j + 3))) (C := RX0) (T := TX0) (N := 6) hx hb hts hinX0 hown hK hP (8 + 4 * j) (xL_obj hj) rfl 5 (by decide) (hts (.fieldLink RX0 28 "LoanCases$Loan" "load" "[I") (by decide +kernel)) (fun _ h9 => h9) rfl dX0_loaded_11 ?_
        refine lv_iload_n hx hb dX0_loaded_14 rfl (lv_at hl 2 rfl) ?_
        refine va_iald (f := N j 5) hx hb hK hP (8 + (4 * j + (2 + 1))) 0 (xL_row hj 2 (by decide)) rfl hin dX0_loaded_15 ?_
        refine lv_bipush (v := -5) hx hb dX0_loaded_16 (by decide) ?_
        refine lv_icmp_eq (tgt := 24) hx hb dX0_loaded_18 (by decide) (fun c_2 => ?_) (fun c_2 => ?_)
        · rw [hcl] at c_2
          obtain ⟨x_3, ex_3⟩ : ∃ y : Int32, y = (nI i) + (1) := ⟨_, rfl⟩
          refine lv_iinc (v := x_3) (lv' := [(2, .int x_3), (0, .ref (q (4 * j))), (1, .int x1)]) hx hb dX0_loaded_24 hl (k := 2) rfl (by rw [ex_3]; rfl) (by decide) rfl (fun ls hl => ?_)
          refine lv_goto (tgt := 4) hx hb dX0_loaded_27 (by decide) ?_
          rw [show x_3 = nI (i + 1) from (ex_3).trans (nI_1 i)] at hl
          exact ih4 (i + 1) x1 (by omega) (by omega) (by rw [hv, xld, cif_t c_2]) ls (lv_sub hl [1, 2, 0] rfl)
        · rw [hcl] at c_2
          obtain ⟨x_4, ex_4⟩ : ∃ y : Int32, y = x1 + (1) := ⟨_, rfl⟩
          refine lv_iinc (v := x_4) (lv' := [(1, .int x_4), (0, .ref (q (4 * j))), (2, .int (nI i))]) hx hb dX0_loaded_21 hl (k := 1) rfl (by rw [ex_4]; rfl) (by decide) rfl (fun ls hl => ?_)
          obtain ⟨x_5, ex_5⟩ : ∃ y : Int32, y = (nI i) + (1) := ⟨_, rfl⟩
          refine lv_iinc (v := x_5) (lv' := [(2, .int x_5), (1, .int x_4), (0, .ref (q (4 * j)))]) hx hb dX0_loaded_24 hl (k := 2) rfl (by rw [ex_5]; rfl) (by decide) rfl (fun ls hl => ?_)
          refine lv_goto (tgt := 4) hx hb dX0_loaded_27 (by decide) ?_
          rw [show x_5 = nI (i + 1) from (ex_5).trans (nI_1 i)] at hl
          exact ih4 (i + 1) x_4 (by omega) (by omega) (by rw [ex_4, hv, xld, cif_f c_2]) ls (lv_sub hl [2, 1, 0] rfl)
  exact loop4 9 0 0 (by omega) (by omega) rfl ls (lv_sub hl [2, 1, 0] rfl)
