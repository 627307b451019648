set_option maxRecDepth 20000 in
theorem ggL_read_X1_read : GoodIn wsL_read wsX1_read := goodIn_ca (goodIn_r _ [7, 8, 9, 10, 11, 12, 13, 14, 15, 16, 17, 6, 18, 19, 20, 21, 22, 23, 24, 25, 26, 27, 28, 29, 30, 31, 32, 33, 34, 35, 36, 37, 38, 39, 40, 41, 42, 43, 44, 45, 46, 47, 48, 49, 50, 51, 52, 53, 54, 55, 56] (by decide +kernel) (by decide +kernel)) (goodIn_sub (fun _ h => List.mem_cons_of_mem _ (List.mem_append_right _ h)) (by decide +kernel))
set_option maxRecDepth 20000 in
theorem gL_read_X1_read : GoodIn wsL_read (wsV RL 7 RX1 yX1_read wsX1_read) := goodIn_app (goodIn_of _ (by decide +kernel)) ggL_read_X1_read
theorem dL_read_0 : decode cL_read 0 = .ok (.aload 4, 2) := by decide +kernel
theorem dL_read_2 : decode cL_read 2 = .ok (.iconst 0, 1) := by decide +kernel
theorem dL_read_3 : decode cL_read 3 = .ok (.aload_n 0, 1) := by decide +kernel
theorem dL_read_4 : decode cL_read 4 = .ok (.iload_n 1, 1) := by decide +kernel
theorem dL_read_5 : decode cL_read 5 = .ok (.iload_n 2, 1) := by decide +kernel
theorem dL_read_6 : decode cL_read 6 = .ok (.iload_n 3, 1) := by decide +kernel
theorem dL_read_7 : decode cL_read 7 = .ok (.invokevirtual 7, 3) := by decide +kernel
theorem dL_read_10 : decode cL_read 10 = .ok (.lastore, 1) := by decide +kernel
theorem dL_read_11 : decode cL_read 11 = .ok (.goto 11, 3) := by decide +kernel
theorem dL_read_14 : decode cL_read 14 = .ok (.astore 5, 2) := by decide +kernel
theorem dL_read_16 : decode cL_read 16 = .ok (.iconst 1, 1) := by decide +kernel
theorem dL_read_17 : decode cL_read 17 = .ok (.ireturn, 1) := by decide +kernel
theorem dL_read_18 : decode cL_read 18 = .ok (.astore 5, 2) := by decide +kernel
theorem dL_read_20 : decode cL_read 20 = .ok (.iconst 2, 1) := by decide +kernel
theorem dL_read_21 : decode cL_read 21 = .ok (.ireturn, 1) := by decide +kernel
theorem dL_read_22 : decode cL_read 22 = .ok (.iconst 0, 1) := by decide +kernel
theorem dL_read_23 : decode cL_read 23 = .ok (.ireturn, 1) := by decide +kernel

def wsL_readT : List Cond := wsL_read ++ (atC.filter goodWord ++ atX.filter goodWord)
theorem all_filter_good (L : List Cond) : ∀ w ∈ L.filter goodWord, goodWord w = true := fun w h => (List.mem_filter.mp h).2
theorem gL_readT : GoodIn wsL_readT (wsV RL 7 RX1 yX1_read wsX1_readT) := by
  intro w hw
  rw [show wsV RL 7 RX1 yX1_read wsX1_readT = wsV RL 7 RX1 yX1_read wsX1_read ++ (atC.filter goodWord ++ atX.filter goodWord) by unfold wsV wsX1_readT; rw [List.append_assoc]] at hw
  rcases List.mem_append.mp hw with h | h
  · exact ⟨List.mem_append_left _ (gL_read_X1_read w h).1, (gL_read_X1_read w h).2⟩
  · refine ⟨List.mem_append_right _ h, good_of_word ?_⟩
    rcases List.mem_append.mp h with h | h
    · exact all_filter_good _ w h
    · exact all_filter_good _ w h
theorem q_tBlind (D : va_G) (TY : List (ClassId × FieldType)) (w : va_W) (sz sa1 sa2 : Nat) (as : List Value) : FrameBlind (q_tP D TY w sz sa1 sa2 as) := fun a U g mk q => by
  obtain ⟨q0, q1, qP, qK, qD, qN, qT⟩ := q
  exact ⟨q0, q1, qP, va_K.moved (u := U) (U := U.calling g mk a) (Vm.Alike.refl U.vm) qK, qD, qN.same rfl, qT.calling⟩
theorem q_tV {A : Nat → Prop} {D : va_G} {TY : List (ClassId × FieldType)} {w w2 : va_W} {s : State} {H : Heap} {locs : List Loc} {C : String} {b : Addr} {As : List Value} {sa1 sa2 : Nat} (hK : va_K D vwCl TY s) (hN : xNest s) (hT : xThr sa1 sa2 A s) (hP : va_P D vwCl (w ++ w2) H) (hD : va_D A (w ++ w2)) (hS : va_S A s.heap H locs) (hA : ∀ q, s.heap.size ≤ q → A q) (hr : ∃ cell : Cell, H[b]? = some cell ∧ cell.vm.isStatics = false ∧ s.vm.findClass C = some cell.cls) : PreV s H C b (q_tP D TY w H.size sa1 sa2 (.ref b :: As)) As :=
  ⟨q_tBlind D TY w _ _ _ _, hr, fun U hU hW => ⟨rfl, by rw [hU], by rw [hU]; exact qb_Pl hP, va_K.moved hW.alike hK, (qb_Dl hD).weaken (fun _ _ _ _ => trivial), hN.warm hW, hT.warm hW hU hS.2.1 (qb_free hD hS hA)⟩⟩
/-- what the law's read says -/
def lrPost (S : Nat → Nat → Int32) (t k i : Int32) (g : Nat → Int64) (r : Int32) (u : Nat → Int64) : Prop := (r = 0 ∧ ∃ v, rdOk S t k i v ∧ u = vp_updL g (0 : Int32).toNatClampNeg v) ∨ (r = 1 ∧ xT S t ∧ btw k 5 8 ∧ ¬ xOf S t k ∧ u = g) ∨ (r = 2 ∧ xT S t ∧ btw k 5 8 ∧ xOf S t k ∧ ¬ xPl S t i ∧ u = g)
abbrev q_lP (D : va_G) (TY : List (ClassId × FieldType)) (w : va_W) (sz sa1 sa2 : Nat) (as : List Value) : Array Value → State → Prop := va_Pc as (fun U => (U.heap.size = sz ∧ va_P D vwCl w U.heap ∧ va_K D vwCl TY U ∧ va_D (fun _ => True) w ∧ xNest U ∧ xThr sa1 sa2 (va_A w sz) U) ∧ va_Nc RJx00060 RJx3273f U)
set_option maxHeartbeats 4000000 in
set_option maxRecDepth 100000 in
theorem c_L_read (l : Launch) (hlt : l.stackTraces = false) (D : va_G) (kI kJ kL : ClassId) (a q : Nat → Nat) (S : Nat → Nat → Int32) (N : Nat → Nat → Nat → Int32) (F : Nat → Option Nat) (B : Nat) (o : Nat) (g : Nat → Int64) (sz sa1 sa2 : Nat) (t : Int32) (k : Int32) (i : Int32) (hn : (S 6 0).toInt ≤ 110) (hz10 : ∀ t, t < 110 → (S 2 t).toInt ≤ 10) : Met l yL_read wsL_readT ({ frames := 8, cells := 1, slots := 6, locals := 133 }) (q_lP D (xTY kI kJ kL) ([(o, .inl (kJ, 1, .inr (.inl g)))] ++ xW kI kL a q S N F B) sz sa1 sa2 [.ref (a 0), .int t, .int k, .int i, .ref o]) (va_Qi (fun r (u : Nat → Int64) => lrPost S t k i g r u) (q_wB D (xTY kI kJ kL) ([(o, .inl (kJ, 1, .inr (.inl g)))] ++ xW kI kL a q S N F B) sz (fun u : Nat → Int64 => [(o, .inl (kJ, 1, .inr (.inl u)))] ++ xW kI kL a q S N F B)) (va_A ([(o, .inl (kJ, 1, .inr (.inl g)))] ++ xW kI kL a q S N F B) sz)) 1 6 (va_A ([(o, .inl (kJ, 1, .inr (.inl g)))] ++ xW kI kL a q S N F B) sz) := by
  refine va_MetW (cc := cL_read) (maxL := 6) (ret := (some .int)) (hh := [(0, 11, 14, 13), (0, 11, 18, 15)]) (by decide) rfl ?_
  intro p e s m args below meth c s₁ Bd hml hv
  obtain ⟨rfl, ⟨hsz, hP, hK, hD0, hN, hT⟩, hNc⟩ := hv
  have hx := Bd.exec
  have hb := Bd.bytes
  have hr := Bd.returns
  have hts := atoms_spec (ws := wsL_readT) Bd.pre
  have hown : s.vm.findClass RL = some m.cls := findClass_of_methodNamed Bd.named
  have hlocks := Bd.notSynchronized
  have htb := vx_table (x := yL_read) Bd (hts (.codeWith yL_read cL_read 6 (some .int) [(0, 11, 14, 13), (0, 11, 18, 15)]) (by decide +kernel))
  subst hsz
  have hD := hD0.self (sz := s.heap.size)
  generalize hAe : va_A ([(o, .inl (kJ, 1, .inr (.inl g)))] ++ xW kI kL a q S N F B) s.heap.size = A at hD hT ⊢
  have hA : ∀ q : Nat, s.heap.size ≤ q → A q := fun q h => by rw [← hAe]; exact Or.inr h
  have hS : va_S A s.heap s.heap [] := va_S.rf
  have hl := lv_entry ([.ref (a 0), .int t, .int k, .int i, .ref o]) (n := 6) (Nat.le_of_ble_eq_true rfl)
  rw [lg_entry_eq]
  generalize (lg_sl ([.ref (a 0), .int t, .int k, .int i, .ref o]) ++ List.replicate (6 - (lg_sl ([.ref (a 0), .int t, .int k, .int i, .ref o])).length) Slot.unset).toArray = ls at hl ⊢
  have hl : lv_has ls 6 [(0, .ref (a 0)), (1, .int t), (2, .int k), (3, .int i), (4, .ref o)] := hl
  refine lv_aload hx hb dL_read_0 (lv_at hl 4 rfl) ?_
  refine lv_iconst (v := 0) hx hb dL_read_2 (by decide) ?_
  refine lv_aload_n hx hb dL_read_3 rfl (lv_at hl 0 rfl) ?_
  refine lv_iload_n hx hb dL_read_4 rfl (lv_at hl 1 rfl) ?_
  refine lv_iload_n hx hb dL_read_5 rfl (lv_at hl 2 rfl) ?_
  refine lv_iload_n hx hb dL_read_6 rfl (lv_at hl 3 rfl) ?_
  have hP := qb_swapP hP
  have hD := qb_swapD hD
  have hF := qb_free hD hS hA
  refine vx_calll (vx_runV (As := [.int t, .int k, .int i]) (rest := [.int 0, .ref o]) ⟨hx, hb, hml, hown, hts⟩ (c_X1_read l hlt D kI kJ kL a q S N F B s.heap.size sa1 sa2 t k i hn hz10) (cwV 3 hts gL_readT rfl rfl rfl (by decide +kernel) ⟨Nat.le_of_ble_eq_true rfl, Nat.le_of_ble_eq_true rfl⟩) (q_tV hK hN hT hP hD hS hA (va_recv hK hP (ci := 4) (q0 := 0) rfl rfl)) rfl rfl hl.1 rfl (lv_room (Nat.le_of_ble_eq_true rfl)) dL_read_7 ⟨Nat.le_of_ble_eq_true rfl, Nat.le_of_ble_eq_true rfl⟩) hS (fun q _ h => hF q h) hF (fun q _ h => hF q h) ?_ ?_
  · intro E ce q9 u t9 H locs ht hvm _ hB hz1 hk1 hS hce hcv hcl
    obtain ⟨hE, hP1, hK1, hD1⟩ := hB
    rw [ht] at hP1
    obtain ⟨hP, hD⟩ := qb_join hP hD hk1 hF hP1 hD1
    have hP := qb_swapP hP
    have hD := qb_swapD hD
    rcases hE with ⟨rfl, h1, h2, h3⟩ | ⟨rfl, h1, h2, h3, h4⟩
    · refine qc_catch (own := RL) (name := RJx3273f) hown [] ⟨0, 11, 14, 13⟩ [⟨0, 11, 18, 15⟩] htb (fun z hz => by cases hz) (by decide) (by decide) (hts (.classLink RL 13 "java/lang/ClassCastException") (by decide +kernel)) (va_Nw.use rfl hT.2.2.1.2.2.2.2.1) hce hcv hcl ?_
      refine lv_astore (lv' := [(5, .ref q9), (0, .ref (a 0)), (1, .int t), (2, .int k), (3, .int i), (4, .ref o)]) hx hb dL_read_14 hl (by decide) rfl (fun ls hl => ?_)
      refine lv_iconst (v := 1) hx hb dL_read_16 (by decide) ?_
      exact W.iret (v := 1) hx hb hr (fun t8 ht8 hW => ⟨⟨1, g, rfl, Or.inr (Or.inl ⟨rfl, h1, h2, h3, rfl⟩), by rw [ht8]; exact hP, va_K.moved hW.alike hK, by rw [hAe]; exact hD⟩, hS.F ht8⟩) hS.2.2 dL_read_17
    · refine qc_catch (own := RL) (name := RJx00060) hown [⟨0, 11, 14, 13⟩] ⟨0, 11, 18, 15⟩ [] htb (fun z hz => by rcases List.mem_singleton.mp hz with rfl; exact ⟨by decide, by decide, RJx3273f, hts (.classLink RL 13 "java/lang/ClassCastException") (by decide +kernel), hNc⟩) (by decide) (by decide) (hts (.classLink RL 15 "java/lang/ArrayIndexOutOfBoundsException") (by decide +kernel)) (va_Nw.use rfl hT.2.2.1.2.2.2.2.2) hce hcv hcl ?_
      refine lv_astore (lv' := [(5, .ref q9), (0, .ref (a 0)), (1, .int t), (2, .int k), (3, .int i), (4, .ref o)]) hx hb dL_read_18 hl (by decide) rfl (fun ls hl => ?_)
      refine lv_iconst (v := 2) hx hb dL_read_20 (by decide) ?_
      exact W.iret (v := 2) hx hb hr (fun t8 ht8 hW => ⟨⟨2, g, rfl, Or.inr (Or.inr ⟨rfl, h1, h2, h3, h4, rfl⟩), by rw [ht8]; exact hP, va_K.moved hW.alike hK, by rw [hAe]; exact hD⟩, hS.F ht8⟩) hS.2.2 dL_read_21
  · intro r u t9 H locs ht hvm hpo hB hz1 hk1 hS
    obtain ⟨hP1, hK1, hD1⟩ := hB
    rw [ht] at hP1
    obtain ⟨hP, hD⟩ := qb_join hP hD hk1 hF hP1 hD1
    have hP := qb_swapP hP
    have hD := qb_swapD hD
    refine va_last (f := g) hx hb hK hP hD hS 0 1 rfl rfl (by unfold vp_in; decide) dL_read_10 (fun H locs hP hD hS => ?_)
    refine lv_goto (tgt := 22) hx hb dL_read_11 (by decide) ?_
    refine lv_iconst (v := 0) hx hb dL_read_22 (by decide) ?_
    exact W.iret (v := 0) hx hb hr (fun t8 ht8 hW => ⟨⟨0, vp_updL g (0 : Int32).toNatClampNeg r, rfl, Or.inl ⟨rfl, r, hpo, rfl⟩, by rw [ht8]; exact hP, va_K.moved hW.alike hK, by rw [hAe]; exact hD⟩, hS.F ht8⟩) hS.2.2 dL_read_23
