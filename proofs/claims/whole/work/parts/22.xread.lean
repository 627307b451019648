
abbrev nmC : List String := ["java/lang/RuntimeException", "java/lang/Exception"]
abbrev nmX : List String := ["java/lang/IndexOutOfBoundsException", "java/lang/RuntimeException", "java/lang/Exception"]
abbrev atC : List Cond := vx_atS RX1 73 RJx3273f nmC
abbrev atX : List Cond := vx_atS RX1 80 RJx00060 nmX
abbrev dclB : List Cond := [.declares (Bundle.initS "java/lang/IndexOutOfBoundsException"), .declares (Bundle.initS "java/lang/RuntimeException"), .declares (Bundle.initS "java/lang/Exception"), .declares (Bundle.initS Bundle.tN), .castable RJx3273f RJx3273f, .castable RJx00060 RJx00060]
theorem atC_rest : ∀ w ∈ atC.filter (fun w => !goodWord w), w ∈ dclB := by decide +kernel
theorem atX_rest : ∀ w ∈ atX.filter (fun w => !goodWord w), w ∈ dclB := by decide +kernel
theorem atC_ot : ∀ w ∈ Cond.classLink RX1 69 RJx3273f :: Cond.initialized RJx3273f :: atC, vx_ot w = true := by decide +kernel
theorem atX_ot : ∀ w ∈ Cond.classLink RX1 76 RJx00060 :: Cond.initialized RJx00060 :: atX, vx_ot w = true := by decide +kernel
def wsX1_readT : List Cond := wsX1_read ++ (atC.filter goodWord ++ atX.filter goodWord)
theorem qgR {ws : List Cond} (h : GoodIn wsX1_read ws) : GoodIn wsX1_readT ws := fun w hw => ⟨List.mem_append_left _ (h w hw).1, (h w hw).2⟩
/-- what a throw wants beside the good words -/
def xThr (sa1 sa2 : Nat) (A : Nat → Prop) (U : State) : Prop := vk_R RX1 71 "not of the kind for which it is taken" sa1 U ∧ vk_R RX1 78 "no such place" sa2 U ∧ (va_Nw (.declares (Bundle.initS "java/lang/IndexOutOfBoundsException")) U ∧ va_Nw (.declares (Bundle.initS "java/lang/RuntimeException")) U ∧ va_Nw (.declares (Bundle.initS "java/lang/Exception")) U ∧ va_Nw (.declares (Bundle.initS Bundle.tN)) U ∧ va_Nw (.castable RJx3273f RJx3273f) U ∧ va_Nw (.castable RJx00060 RJx00060) U) ∧ vx_Zq Bundle.tN "UNASSIGNED_STACK" Bundle.steD A U U.heap ∧ vx_Zq Bundle.tN "SUPPRESSED_SENTINEL" Bundle.listD A U U.heap
theorem xThr.dcl {sa1 sa2 : Nat} {A : Nat → Prop} {U : State} {args : Array Value} (h : xThr sa1 sa2 A U) : ∀ w ∈ dclB, w.before args U = true := vx_c (va_Nw.use rfl h.2.2.1.1) (vx_c (va_Nw.use rfl h.2.2.1.2.1) (vx_c (va_Nw.use rfl h.2.2.1.2.2.1) (vx_c (va_Nw.use rfl h.2.2.1.2.2.2.1) (vx_c (va_Nw.use rfl h.2.2.1.2.2.2.2.1) (vx_c (va_Nw.use rfl h.2.2.1.2.2.2.2.2) vx_n)))))
theorem xThr.calling {sa1 sa2 : Nat} {A : Nat → Prop} {U : State} {g : JFrame} {mk : MethodId} {a : Array Value} (h : xThr sa1 sa2 A U) : xThr sa1 sa2 A (U.calling g mk a) := by
  obtain ⟨h1, h2, ⟨h3, h4, h5, h6, h9, h10⟩, h7, h8⟩ := h
  exact ⟨h1.same rfl, h2.same rfl, ⟨h3.same rfl rfl, h4.same rfl rfl, h5.same rfl rfl, h6.same rfl rfl, h9.same rfl rfl, h10.same rfl rfl⟩, h7.moved (Vm.Alike.refl U.vm), h8.moved (Vm.Alike.refl U.vm)⟩
theorem xThr.warm {sa1 sa2 : Nat} {A B : Nat → Prop} {s U : State} {H : Heap} (hW : s.WarmedH U.vm) (hU : U.heap = H) (hH : ∀ a : Nat, a < s.heap.size → ¬ A a → H[a]? = s.heap[a]?) (hAB : ∀ q, B q → A q) (h : xThr sa1 sa2 A s) : xThr sa1 sa2 B U := by
  obtain ⟨h1, h2, ⟨h3, h4, h5, h6, h9, h10⟩, h7, h8⟩ := h
  exact ⟨h1.warm hW, h2.warm hW, ⟨h3.warmD hW, h4.warmD hW, h5.warmD hW, h6.warmD hW, h9.warmC hW, h10.warmC hW⟩, by rw [hU]; exact ((h7.kept hH).moved hW.alike).narrow hAB, by rw [hU]; exact ((h8.kept hH).moved hW.alike).narrow hAB⟩
abbrev q_tP (D : va_G) (TY : List (ClassId × FieldType)) (w : va_W) (sz sa1 sa2 : Nat) (as : List Value) : Array Value → State → Prop := va_Pc as (fun U => U.heap.size = sz ∧ va_P D vwCl w U.heap ∧ va_K D vwCl TY U ∧ va_D (fun _ => True) w ∧ xNest U ∧ xThr sa1 sa2 (va_A w sz) U)
/-- read, when it answers -/
def rdOk (S : Nat → Nat → Int32) (t k i : Int32) (r : Int64) : Prop := (¬ (xT S t ∧ btw k 5 8) ∧ r = 0) ∨ (xT S t ∧ btw k 5 8 ∧ xOf S t k ∧ xPl S t i ∧ r = (S 4 (t * 10 + i).toNatClampNeg).toInt64)
/-- .. and when it throws -/
def rdEx (S : Nat → Nat → Int32) (t k i : Int32) (E : String) : Prop := (E = RJx3273f ∧ xT S t ∧ btw k 5 8 ∧ ¬ xOf S t k) ∨ (E = RJx00060 ∧ xT S t ∧ btw k 5 8 ∧ xOf S t k ∧ ¬ xPl S t i)
set_option maxHeartbeats 4000000 in
set_option maxRecDepth 100000 in
theorem c_X1_read (l : Launch) (hlt : l.stackTraces = false) (D : va_G) (kI kJ kL : ClassId) (a q : Nat → Nat) (S : Nat → Nat → Int32) (N : Nat → Nat → Nat → Int32) (F : Nat → Option Nat) (B : Nat) (sz sa1 sa2 : Nat) (t : Int32) (k : Int32) (i : Int32) (hn : (S 6 0).toInt ≤ 110) (hz10 : ∀ t, t < 110 → (S 2 t).toInt ≤ 10) : vx_Met l yX1_read wsX1_readT ({ frames := 7, cells := 1, slots := 6, locals := 110 }) (q_tP D (xTY kI kJ kL) (xW kI kL a q S N F B) sz sa1 sa2 [.ref (a 0), .int t, .int k, .int i]) (va_Ql (fun r (u : Unit) => rdOk S t k i r) (q_wB D (xTY kI kJ kL) (xW kI kL a q S N F B) sz (fun u : Unit => xW kI kL a q S N F B)) (va_A (xW kI kL a q S N F B) sz)) (vx_X (fun _ : Unit => True) (fun E _ t9 => rdEx S t k i E ∧ va_P D vwCl (xW kI kL a q S N F B) t9.heap ∧ va_K D vwCl (xTY kI kJ kL) t9 ∧ va_D (va_A (xW kI kL a q S N F B) sz) (xW kI kL a q S N F B)) (va_A (xW kI kL a q S N F B) sz)) 1 6 (va_A (xW kI kL a q S N F B) sz) := by
  refine vx_ofW (cc := cX1_read) (maxL := 4) (ret := (some .long)) (by decide) rfl ?_
  intro p e s m args below meth c s₁ Bd hml hnt hv
  obtain ⟨rfl, hsz, hP, hK, hD0, hN, hT⟩ := hv
  have hx := Bd.exec
  have hb := Bd.bytes
  have hr := Bd.returns
  have hts := atoms_spec (ws := wsX1_readT) Bd.pre
  have hown : s.vm.findClass RX1 = some m.cls := findClass_of_methodNamed Bd.named
  have hlocks := Bd.notSynchronized
  subst hsz
  have hD := hD0.self (sz := s.heap.size)
  generalize hAe : va_A (xW kI kL a q S N F B) s.heap.size = A at hD hT ⊢
  have hA : ∀ q : Nat, s.heap.size ≤ q → A q := fun q h => by rw [← hAe]; exact Or.inr h
  have hS : va_S A s.heap s.heap [] := va_S.rf
  have hl := lv_entry ([.ref (a 0), .int t, .int k, .int i]) (n := 4) (Nat.le_of_ble_eq_true rfl)
  rw [lg_entry_eq]
  generalize (lg_sl ([.ref (a 0), .int t, .int k, .int i]) ++ List.replicate (4 - (lg_sl ([.ref (a 0), .int t, .int k, .int i])).length) Slot.unset).toArray = ls at hl ⊢
  have hl : lv_has ls 4 [(0, .ref (a 0)), (1, .int t), (2, .int k), (3, .int i)] := hl
  have hinX1 : ∀ w ∈ u_ws RX1 TX1 9, w ∈ wsX1_readT := by decide +kernel
  refine lv_aload_n hx hb dX1_read_0 rfl (lv_at hl 0 rfl) ?_
  refine lv_iload_n hx hb dX1_read_1 rfl (lv_at hl 1 rfl) ?_
  refine vp_callSi (W.runV (As := [.int t]) (rest := []) ⟨hx, hb, hml, hown, hts⟩ (c_X1_isThing l D kI kJ kL a q S N F B t) (cwV 1 hts (qgR gX1_read_X1_isThing) rfl rfl rfl (by decide +kernel) ⟨Nat.le_of_ble_eq_true rfl, Nat.le_of_ble_eq_true rfl⟩) (q_rV (w2 := []) hK hN (by rw [List.append_nil]; exact hP) (va_recv hK hP (ci := 4) (q0 := 0) rfl rfl)) rfl rfl hl.1 rfl (lv_room (Nat.le_of_ble_eq_true rfl)) dX1_read_2 ⟨Nat.le_of_ble_eq_true rfl, Nat.le_of_ble_eq_true rfl⟩) (fun r_h_1 h_1 => ?_)
  rcases h_1 with ⟨rfl, h_1⟩ | ⟨rfl, h_1⟩
  · refine lv_if_eq (tgt := 18) hx hb dX1_read_5 (by decide) (fun c_2 => absurd c_2 (by decide)) (fun c_2 => ?_)
    refine lv_iload_n hx hb dX1_read_8 rfl (lv_at hl 2 rfl) ?_
    refine lv_iconst (v := 5) hx hb dX1_read_9 (by decide) ?_
    refine lv_bipush (v := 8) hx hb dX1_read_10 (by decide) ?_
    refine vp_callSi (W.runS (As := [.int k, .int 5, .int 8]) (rest := []) ⟨hx, hb, hml, hown, hts⟩ (c_X1_between l D kI kJ kL k 5 8) (va_cwS 3 hts (qgR gX1_read_X1_between) rfl rfl rfl (by decide +kernel) ⟨Nat.le_of_ble_eq_true rfl, Nat.le_of_ble_eq_true rfl⟩) (q_rS0 hK hN) rfl rfl hl.1 rfl (lv_room (Nat.le_of_ble_eq_true rfl)) dX1_read_12 ⟨Nat.le_of_ble_eq_true rfl, Nat.le_of_ble_eq_true rfl⟩) (fun r_h_3 h_3 => ?_)
    rcases h_3 with ⟨rfl, h_3⟩ | ⟨rfl, h_3⟩
    · refine lv_if_ne (tgt := 20) hx hb dX1_read_15 (by decide) (fun c_4 => ?_) (fun c_4 => absurd c_4 (by decide))
      refine lv_aload_n hx hb dX1_read_20 rfl (lv_at hl 0 rfl) ?_
      refine lv_iload_n hx hb dX1_read_21 rfl (lv_at hl 1 rfl) ?_
      refine lv_iload_n hx hb dX1_read_22 rfl (lv_at hl 2 rfl) ?_
      refine vp_callSi (W.runV (As := [.int t, .int k]) (rest := []) ⟨hx, hb, hml, hown, hts⟩ (c_X1_isOf l D kI kJ kL a q S N F B t k hn) (cwV 2 hts (qgR gX1_read_X1_isOf) rfl rfl rfl (by decide +kernel) ⟨Nat.le_of_ble_eq_true rfl, Nat.le_of_ble_eq_true rfl⟩) (q_rV (w2 := []) hK hN (by rw [List.append_nil]; exact hP) (va_recv hK hP (ci := 4) (q0 := 0) rfl rfl)) rfl rfl hl.1 rfl (lv_room (Nat.le_of_ble_eq_true rfl)) dX1_read_23 ⟨Nat.le_of_ble_eq_true rfl, Nat.le_of_ble_eq_true rfl⟩) (fun r_h_5 h_5 => ?_)
      rcases h_5 with ⟨rfl, h_5⟩ | ⟨rfl, h_5⟩
      · refine lv_if_ne (tgt := 39) hx hb dX1_read_26 (by decide) (fun c_6 => ?_) (fun c_6 => absurd c_6 (by decide))
        refine lv_aload_n hx hb dX1_read_39 rfl (lv_at hl 0 rfl) ?_
        refine lv_iload_n hx hb dX1_read_40 rfl (lv_at hl 1 rfl) ?_
        refine lv_iload_n hx hb dX1_read_41 rfl (lv_at hl 3 rfl) ?_
        refine vp_callSi (W.runV (As := [.int t, .int i]) (rest := []) ⟨hx, hb, hml, hown, hts⟩ (c_X1_hasPlace l D kI kJ kL a q S N F B t i (xT_in hn h_1)) (cwV 2 hts (qgR gX1_read_X1_hasPlace) rfl rfl rfl (by decide +kernel) ⟨Nat.le_of_ble_eq_true rfl, Nat.le_of_ble_eq_true rfl⟩) (q_rV (w2 := []) hK hN (by rw [List.append_nil]; exact hP) (va_recv hK hP (ci := 4) (q0 := 0) rfl rfl)) rfl rfl hl.1 rfl (lv_room (Nat.le_of_ble_eq_true rfl)) dX1_read_42 ⟨Nat.le_of_ble_eq_true rfl, Nat.le_of_ble_eq_true rfl⟩) (fun r_h_7 h_7 => ?_)
        rcases h_7 with ⟨rfl, h_7⟩ | ⟨rfl, h_7⟩
        · refine lv_if_ne (tgt := 58) hx hb dX1_read_45 (by decide) (fun c_8 => ?_) (fun c_8 => absurd c_8 (by decide))
          refine lv_aload_n hx hb dX1_read_58 rfl (lv_at hl 0 rfl) ?_
          refine va_get (D := D) (ci := 4) (v := .ref (a 5)) (C := RX1) (T := TX1) (N := 9) hx hb hts hinX1 hown hK hP 0 rfl rfl 4 (by decide) (hts (.fieldLink RX1 22 "LoanCases" "places" "[I") (by decide +kernel)) (fun _ h9 => h9) rfl dX1_read_59 ?_
          refine lv_iload_n hx hb dX1_read_62 rfl (lv_at hl 1 rfl) ?_
          refine lv_bipush (v := 10) hx hb dX1_read_63 (by decide) ?_
          refine lv_imul hx hb dX1_read_65 ?_
          refine lv_iload_n hx hb dX1_read_66 rfl (lv_at hl 3 rfl) ?_
          refine lv_iadd hx hb dX1_read_67 ?_
          refine va_iald (f := S 4) hx hb hK hP 5 0 rfl rfl (pl_in (xT_in hn h_1) h_7.1 h_7.2 (hz10 _ (Nat.lt_of_not_le fun h7 => (xT_in hn h_1) (Or.inr h7)))) dX1_read_68 ?_
          refine lv_i2l hx hb dX1_read_69 rfl ?_
          refine vx_ret ?_
          refine W.widen (k := 1) (n := 6) (by omega) (by omega) ?_
          exact W.lret (v := ((S 4 ((t * 10) + i).toNatClampNeg).toInt64)) hx hb hr (fun t9 ht hW => ⟨⟨((S 4 ((t * 10) + i).toNatClampNeg).toInt64), (), rfl, Or.inr ⟨h_1, h_3, h_5, h_7, rfl⟩, by rw [ht]; exact hP, va_K.moved hW.alike hK, by rw [hAe]; exact hD⟩, hS.F ht⟩) hS.2.2 dX1_read_70
        · refine lv_if_ne (tgt := 58) hx hb dX1_read_45 (by decide) (fun c_9 => absurd c_9 (by decide)) (fun c_9 => ?_)
          have hat : ∀ w ∈ atX, w.before ([.ref (a 0), .int t, .int k, .int i] : List Value).toArray s = true := vx_hat (B := dclB) (fun w h => hts w (List.mem_append_right _ (List.mem_append_right _ h))) atX_rest hT.dcl
          exact vx_throwS (own := RX1) (cls := RJx00060) (text := "no such place") (names := nmX) (A := A) hx hb hlt hown (by decide +kernel) (by decide +kernel) (hts (.classLink RX1 76 RJx00060) (by decide +kernel)) (hts (.initialized RJx00060) (by decide +kernel)) hT.2.1 hat atX_ot hT.2.2.2.1 hT.2.2.2.2 hS (hl.1.trans hml.symm) dX1_read_48 dX1_read_51 dX1_read_52 dX1_read_54 dX1_read_57 (fun x h => (hnt x h).elim) (by decide) (by decide) (Nat.le_of_ble_eq_true rfl) (Nat.le_of_ble_eq_true rfl) hlocks (fun t9 hal hsz9 hk9 => ⟨(), trivial, ⟨Or.inr ⟨rfl, h_1, h_3, h_5, h_7⟩, hP.kept (fun k9 x9 hx9 => hk9 x9.1 ((hP k9 x9 hx9).lt)), va_K.moved hal hK, hD⟩, ⟨hsz9, fun q9 hq9 _ => hk9 q9 hq9⟩⟩) hS.2.2 (Nat.le_refl _) (Nat.le_refl _)
      · refine lv_if_ne (tgt := 39) hx hb dX1_read_26 (by decide) (fun c_10 => absurd c_10 (by decide)) (fun c_10 => ?_)
        have hat : ∀ w ∈ atC, w.before ([.ref (a 0), .int t, .int k, .int i] : List Value).toArray s = true := vx_hat (B := dclB) (fun w h => hts w (List.mem_append_right _ (List.mem_append_left _ h))) atC_rest hT.dcl
        exact vx_throwS (own := RX1) (cls := RJx3273f) (text := "not of the kind for which it is taken") (names := nmC) (A := A) hx hb hlt hown (by decide +kernel) (by decide +kernel) (hts (.classLink RX1 69 RJx3273f) (by decide +kernel)) (hts (.initialized RJx3273f) (by decide +kernel)) hT.1 hat atC_ot hT.2.2.2.1 hT.2.2.2.2 hS (hl.1.trans hml.symm) dX1_read_29 dX1_read_32 dX1_read_33 dX1_read_35 dX1_read_38 (fun x h => (hnt x h).elim) (by decide) (by decide) (Nat.le_of_ble_eq_true rfl) (Nat.le_of_ble_eq_true rfl) hlocks (fun t9 hal hsz9 hk9 => ⟨(), trivial, ⟨Or.inl ⟨rfl, h_1, h_3, h_5⟩, hP.kept (fun k9 x9 hx9 => hk9 x9.1 ((hP k9 x9 hx9).lt)), va_K.moved hal hK, hD⟩, ⟨hsz9, fun q9 hq9 _ => hk9 q9 hq9⟩⟩) hS.2.2 (Nat.le_refl _) (Nat.le_refl _)
    · refine lv_if_ne (tgt := 20) hx hb dX1_read_15 (by decide) (fun c_11 => absurd c_11 (by decide)) (fun c_11 => ?_)
      refine lv_lconst (v := 0) hx hb dX1_read_18 (by decide) ?_
      refine vx_ret ?_
      refine W.widen (k := 1) (n := 6) (by omega) (by omega) ?_
      exact W.lret (v := 0) hx hb hr (fun t9 ht hW => ⟨⟨0, (), rfl, Or.inl ⟨fun h9 => h_3 h9.2, rfl⟩, by rw [ht]; exact hP, va_K.moved hW.alike hK, by rw [hAe]; exact hD⟩, hS.F ht⟩) hS.2.2 dX1_read_19
  · refine lv_if_eq (tgt := 18) hx hb dX1_read_5 (by decide) (fun c_12 => ?_) (fun c_12 => absurd c_12 (by decide))
    refine lv_lconst (v := 0) hx hb dX1_read_18 (by decide) ?_
    refine vx_ret ?_
    refine W.widen (k := 1) (n := 6) (by omega) (by omega) ?_
    exact W.lret (v := 0) hx hb hr (fun t9 ht hW => ⟨⟨0, (), rfl, Or.inl ⟨fun h9 => h_1 h9.1, rfl⟩, by rw [ht]; exact hP, va_K.moved hW.alike hK, by rw [hAe]; exact hD⟩, hS.F ht⟩) hS.2.2 dX1_read_19
