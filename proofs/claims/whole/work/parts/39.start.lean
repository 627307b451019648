theorem R0 : Rl 0 0 S00 N00 S0M (fun _ => 0) := by
  have z : ∀ L : Nat, 0 < L → L < 2 ^ 31 → vp_in (0 : Int32) L := fun L h1 h2 => vp_in_nI (n := 0) h1 h2
  refine ⟨⟨by omega, by omega, rfl, rfl, rfl, rfl⟩, ⟨fun i _ => z 19 (by omega) (by omega), fun i _ => ⟨0, by omega, rfl⟩, fun i _ => Or.inr (z 110 (by omega) (by omega)), fun i _ => z 110 (by omega) (by omega), fun i _ => Or.inr (z 110 (by omega) (by omega)), fun i _ => ⟨0, by omega, rfl⟩, fun t _ => men_neg (fun hc => absurd hc.2 (by show ¬ (0 : Int32) = 18; decide)) 110, rfl, rfl⟩, fun i _ => by show (0 : Int32).toInt ≤ 10; decide, ⟨fun t h => absurd h (Nat.not_lt_zero _), fun t h => absurd h (Nat.not_lt_zero _), fun t h => absurd h (Nat.not_lt_zero _)⟩, fun j h => absurd h (Nat.not_lt_zero _), fun k _ => rfl⟩
theorem inJ00 : ∀ w ∈ wsJ00, w ∈ lw_tbl := by decide +kernel
theorem lw_D0 {s : State} {b : Nat} (hts : ∀ w ∈ lw_tbl, w.before #[Value.ref b] s = true) : ∃ D : va_G, ∀ (k : Nat) (q : vw_C), vwCl[k]? = some q → u_Kn s q.1 q.2.1 q.2.2 (D.1 k) (D.2 k) := by
  obtain ⟨c0, i0, k0⟩ := u_known (C := RJ0) (T := TJ0) (N := 2) (n := 4) hts inJ00 (hts (.instantiable RJ0 4) (by decide +kernel))
  obtain ⟨c1, i1, k1⟩ := u_known (C := RJx00060) (T := TJx00060) (N := 6) (n := 6) hts inwsJx000600 (hts (.instantiable RJx00060 6) (by decide +kernel))
  obtain ⟨c2, i2, k2⟩ := u_known (C := RJx3273f) (T := TJx3273f) (N := 6) (n := 6) hts inwsJx3273f0 (hts (.instantiable RJx3273f 6) (by decide +kernel))
  obtain ⟨c3, i3, k3⟩ := u_known (C := RX0) (T := TX0) (N := 6) (n := 6) hts inwsX00 (hts (.instantiable RX0 6) (by decide +kernel))
  obtain ⟨c4, i4, k4⟩ := u_known (C := RX1) (T := TX1) (N := 9) (n := 9) hts inwsX10 (hts (.instantiable RX1 9) (by decide +kernel))
  obtain ⟨c5, i5, k5⟩ := u_known (C := RX2) (T := TX2) (N := 17) (n := 17) hts inwsX20 (hts (.instantiable RX2 17) (by decide +kernel))
  refine ⟨(fun k => if k = 0 then c0 else if k = 1 then c1 else if k = 2 then c2 else if k = 3 then c3 else if k = 4 then c4 else c5, fun k => if k = 0 then i0 else if k = 1 then i1 else if k = 2 then i2 else if k = 3 then i3 else if k = 4 then i4 else i5), ?_⟩
  intro k q hq
  match k, hq with
  | 0, hq => cases hq; exact k0
  | 1, hq => cases hq; exact k1
  | 2, hq => cases hq; exact k2
  | 3, hq => cases hq; exact k3
  | 4, hq => cases hq; exact k4
  | 5, hq => cases hq; exact k5
  | k + 6, hq => simp [vwCl] at hq
theorem lw_N0 {s : State} {b : Nat} (hts : ∀ w ∈ lw_tbl, w.before #[Value.ref b] s = true) : xNest s := by
  refine ⟨va_Nw.of rfl (hts _ (by decide +kernel)), va_Nw.of rfl (hts _ (by decide +kernel)), va_Nw.of rfl (hts _ (by decide +kernel)), va_Nw.of rfl (hts _ (by decide +kernel)), va_Nw.of rfl (hts _ (by decide +kernel)), va_Nw.of rfl (hts _ (by decide +kernel)), va_Nw.of rfl (hts _ (by decide +kernel)), va_Nw.of rfl (hts _ (by decide +kernel)), va_Nw.of rfl (hts _ (by decide +kernel)), va_Nw.of rfl (hts _ (by decide +kernel))⟩
theorem lw_T0 {s : State} {b : Nat} (hts : ∀ w ∈ lw_tbl, w.before #[Value.ref b] s = true) (hgv : (Jvm.Cond.and given_1 narrow_1).before #[Value.ref b] s = true) : ∃ sa1 sa2 : Nat, xThr sa1 sa2 (fun q : Nat => s.heap.size ≤ q) s := by
  have hs := flat_of_before _ hgv
  have h1 : (Cond.exactly (.string RX1 71) "java/lang/String").before #[Value.ref b] s = true := hs _ (by decide +kernel)
  have h2 : (Cond.exactly (.string RX1 78) "java/lang/String").before #[Value.ref b] s = true := hs _ (by decide +kernel)
  have h3 : (Cond.isRef (.static Bundle.tN "UNASSIGNED_STACK" Bundle.steD)).before #[Value.ref b] s = true := hs _ (by decide +kernel)
  have h4 : (Cond.isRef (.static Bundle.tN "SUPPRESSED_SENTINEL" Bundle.listD)).before #[Value.ref b] s = true := hs _ (by decide +kernel)
  obtain ⟨sa1, _, _, _, e1, _⟩ := Cond.exactly_spec h1
  obtain ⟨sa2, _, _, _, e2, _⟩ := Cond.exactly_spec h2
  refine ⟨sa1, sa2, vk_R.of (hts _ (by decide +kernel)) e1, vk_R.of (hts _ (by decide +kernel)) e2, ⟨va_Nw.of rfl (hts _ (by decide +kernel)), va_Nw.of rfl (hts _ (by decide +kernel)), va_Nw.of rfl (hts _ (by decide +kernel)), va_Nw.of rfl (hts _ (by decide +kernel)), va_Nw.of rfl (hts _ (by decide +kernel)), va_Nw.of rfl (hts _ (by decide +kernel))⟩, vx_Zqof (hts _ (by decide +kernel)) (hts _ (by decide +kernel)) h3 (fun a h z => Nat.not_le.mpr h z), vx_Zqof (hts _ (by decide +kernel)) (hts _ (by decide +kernel)) h4 (fun a h z => Nat.not_le.mpr h z)⟩
theorem lw_K0 {s : State} {b : Nat} (hts : ∀ w ∈ lw_tbl, w.before #[Value.ref b] s = true) (hgv : (Jvm.Cond.and given_1 narrow_1).before #[Value.ref b] s = true) : ∃ (D : va_G) (kI kJ kL : ClassId) (sa1 sa2 : Nat), lwK D kI kJ kL sa1 sa2 s ∧ va_AO RX0 s := by
  obtain ⟨D, hD⟩ := lw_D0 hts
  obtain ⟨sa1, sa2, hT⟩ := lw_T0 hts hgv
  have hs := flat_of_before _ hgv
  have h1 : (Cond.not (.castable RJx00060 RJx3273f)).before #[Value.ref b] s = true := hs _ (by decide +kernel)
  have h2 : (Cond.arrayOver (.object RX0)).before #[Value.ref b] s = true := hts _ (by decide +kernel)
  obtain ⟨kI, aI, cI, i1, i2, i3⟩ := Cond.arrayClass_spec (hts (.arrayClass .int) (by decide +kernel))
  obtain ⟨kJ, aJ, cJ, j1, j2, j3⟩ := Cond.arrayClass_spec (hts (.arrayClass .long) (by decide +kernel))
  obtain ⟨cL, kL, aL, l1, l2, l3, l4, l5⟩ := Cond.arrayOver_spec h2
  refine ⟨D, kI, kJ, kL, sa1, sa2, ⟨⟨hD, ?_⟩, lw_N0 hts, hT, va_Nc.of h1⟩, va_AO.of h2⟩
  intro k q hq
  match k, hq with
  | 0, hq => cases hq; exact ⟨fun n z => ⟨(fun k h => by cases h), aI, i2, cI, i3⟩, i1⟩
  | 1, hq => cases hq; exact ⟨fun n z => ⟨(fun k h => by cases h), aJ, j2, cJ, j3⟩, j1⟩
  | 2, hq => cases hq; exact ⟨fun n z => ⟨(fun k h => by cases h), aL, l3, cL, l4⟩, aL, cL, l3, l4, l1, l5⟩
  | k + 3, hq => simp at hq
set_option maxHeartbeats 4000000 in
set_option maxRecDepth 100000 in
theorem whole_start {p : Program} {e : Env} {s : State} {m : MethodId} {below : List Frame} {meth : Method} {c : Code} (l : Launch) (hlt : l.stackTraces = false) {b L : Nat} {xs : Nat → Int32} (hL : L ≤ 3072) (C0 : lw_At p s m meth c b L xs) : W p l e room_1 s m #[Value.ref b] below meth c s.heap [] 0 0 (lw_Z below #[Value.ref b] s) (entryFrame m ([Value.ref b] : List Value).toArray 8) := by
  obtain ⟨hx, hb, hr, hml, hown0, hts0, hX, hbl, hlocks, hgv⟩ := id C0
  have hown := hownL hown0
  have hts : ∀ w ∈ wsL_law, w.before #[Value.ref b] s = true := fun w h => hts0 w (wsL_law_in w h)
  obtain ⟨D, kI, kJ, kL, sa1, sa2, K0, hO⟩ := lw_K0 hts0 hgv
  obtain ⟨hK, hN, hT, hNc⟩ := id K0
  have hA : ∀ q : Nat, s.heap.size ≤ q → (fun q : Nat => s.heap.size ≤ q) q := fun _ h => h
  have hS : va_S (fun q : Nat => s.heap.size ≤ q) s.heap s.heap [] := va_S.rf
  have hP : va_P D vwCl [] s.heap := fun k q h => by simp at h
  have hD : va_D (fun q : Nat => s.heap.size ≤ q) [] := ⟨fun i j p q h => by simp at h, fun k q h => by simp at h⟩
  have hl := lv_entry ([.ref b]) (n := 8) (Nat.le_of_ble_eq_true rfl)
  rw [lg_entry_eq]
  generalize (lg_sl ([.ref b]) ++ List.replicate (8 - (lg_sl ([.ref b])).length) Slot.unset).toArray = ls at hl ⊢
  have hl : lv_has ls 8 [(0, .ref b)] := hl
  refine va_new (ci := 4) (fs := [.null, .null, .null, .null, .null, .int 0, .null, .int 0, .null]) (C := RX1) (T := TX1) (N := 9) hx hb hts0 inwsX10 tyX1 tyX1_ok hown (hts (.classLink RL 8 RX1) (by decide +kernel)) (hts (.instantiable RX1 9) (by decide +kernel)) (hts (.initialized RX1) (by decide +kernel)) hK hP hD hS hA rfl (fun j hj => by rcases (show j = 0 ∨ j = 1 ∨ j = 2 ∨ j = 3 ∨ j = 4 ∨ j = 5 ∨ j = 6 ∨ j = 7 ∨ j = 8 by omega) with rfl | rfl | rfl | rfl | rfl | rfl | rfl | rfl | rfl <;> rfl) (Nat.le_of_ble_eq_true rfl) (Nat.le_of_ble_eq_true rfl) dL_law_0 (fun x0 H hP hD hS => ?_)
  have hP : va_P D vwCl ([(x0, .inr (4, [.null, .null, .null, .null, .null, .int 0, .null, .int 0, .null]))] ++ []) H := hP
  have hD : va_D (fun q : Nat => s.heap.size ≤ q) ([(x0, .inr (4, [.null, .null, .null, .null, .null, .int 0, .null, .int 0, .null]))] ++ []) := hD
  refine W.widen (k := 1) (n := 9) (by omega) (by omega) ?_
  refine lv_dup hx hb dL_law_3 rfl ?_
  refine qw_v (w2 := []) (va_runI (As := []) (rest := [.ref x0]) ⟨hx, hb, hml, hown, hts⟩ (c_X1_init l D kI kJ kL x0 H.size) (cwI 0 hts gL_law_X1_init rfl rfl rfl (hts (.initialized RX1) (by decide +kernel)) (hts (.methodLink RL 17 yX1_init) (by decide +kernel)) (hts (.instanceMethod yX1_init) (by decide +kernel)) rfl (by decide +kernel) ⟨Nat.le_of_ble_eq_true rfl, Nat.le_of_ble_eq_true rfl⟩) ⟨fun a U g mk q => by obtain ⟨q0, q1, qP, qK, qD, qN, qO⟩ := q; exact ⟨q0, q1, qP, va_K.moved (u := U) (U := U.calling g mk a) (Vm.Alike.refl U.vm) qK, qD, qN.same rfl, va_AO.moved (u := U) (U := U.calling g mk a) (Vm.Alike.refl U.vm) qO⟩, fun U hU hW => ⟨rfl, by rw [hU], by rw [hU]; exact qb_Pl hP, va_K.moved hW.alike hK, (qb_Dl hD).weaken (fun _ _ _ _ => trivial), hN.warm hW, hO.moved hW.alike⟩⟩ rfl rfl hl.1 rfl (lv_room (Nat.le_of_ble_eq_true rfl)) dL_law_4 ⟨Nat.le_of_ble_eq_true rfl, Nat.le_of_ble_eq_true rfl⟩) hP hD hS hA (fun u1 H locs h1 hP hD hS => ?_)
  rw [List.append_nil] at hP hD
  have hP : va_P D vwCl (xW kI kL u1 u1 S00 N00 (fun _ => none) 0) H := hP
  have hD : va_D (fun q : Nat => s.heap.size ≤ q) (xW kI kL u1 u1 S00 N00 (fun _ => none) 0) := hD
  refine W.widen (k := 8) (n := 1563) (by omega) (by omega) ?_
  refine lv_astore_n (lv' := [(1, .ref x0), (0, .ref b)]) hx hb dL_law_7 rfl hl (by decide) rfl (fun ls hl => ?_)
  refine va_new (ci := 5) (fs := [.int 0, .int 0, .null, .null, .null, .null, .null, .null, .null, .int 0, .null, .null, .null, .null, .null, .null, .null]) (C := RX2) (T := TX2) (N := 17) hx hb hts0 inwsX20 tyX2 tyX2_ok hown (hts (.classLink RL 18 RX2) (by decide +kernel)) (hts (.instantiable RX2 17) (by decide +kernel)) (hts (.initialized RX2) (by decide +kernel)) hK hP hD hS hA rfl (fun j hj => by rcases (show j = 0 ∨ j = 1 ∨ j = 2 ∨ j = 3 ∨ j = 4 ∨ j = 5 ∨ j = 6 ∨ j = 7 ∨ j = 8 ∨ j = 9 ∨ j = 10 ∨ j = 11 ∨ j = 12 ∨ j = 13 ∨ j = 14 ∨ j = 15 ∨ j = 16 by omega) with rfl | rfl | rfl | rfl | rfl | rfl | rfl | rfl | rfl | rfl | rfl | rfl | rfl | rfl | rfl | rfl | rfl <;> rfl) (Nat.le_of_ble_eq_true rfl) (Nat.le_of_ble_eq_true rfl) dL_law_8 (fun m0 H hP hD hS => ?_)
  have hP := qb_swapP hP
  have hD := qb_swapD hD
  have hP : va_P D vwCl ([(m0, .inr (5, [.int 0, .int 0, .null, .null, .null, .null, .null, .null, .null, .int 0, .null, .null, .null, .null, .null, .null, .null]))] ++ xW kI kL u1 u1 S00 N00 (fun _ => none) 0) H := hP
  have hD : va_D (fun q : Nat => s.heap.size ≤ q) ([(m0, .inr (5, [.int 0, .int 0, .null, .null, .null, .null, .null, .null, .null, .int 0, .null, .null, .null, .null, .null, .null, .null]))] ++ xW kI kL u1 u1 S00 N00 (fun _ => none) 0) := hD
  refine W.widen (k := 9) (n := 1580) (by omega) (by omega) ?_
  refine lv_dup hx hb dL_law_11 rfl ?_
  refine qw_v (w2 := xW kI kL u1 u1 S00 N00 (fun _ => none) 0) (va_runI (As := []) (rest := [.ref m0]) ⟨hx, hb, hml, hown, hts⟩ (c_X2_init l D kI kJ kL m0 H.size) (cwI 0 hts gL_law_X2_init rfl rfl rfl (hts (.initialized RX2) (by decide +kernel)) (hts (.methodLink RL 20 yX2_init) (by decide +kernel)) (hts (.instanceMethod yX2_init) (by decide +kernel)) rfl (by decide +kernel) ⟨Nat.le_of_ble_eq_true rfl, Nat.le_of_ble_eq_true rfl⟩) (q_wS (w2 := xW kI kL u1 u1 S00 N00 (fun _ => none) 0) hK hN hP hD) rfl rfl hl.1 rfl (lv_room (Nat.le_of_ble_eq_true rfl)) dL_law_12 ⟨Nat.le_of_ble_eq_true rfl, Nat.le_of_ble_eq_true rfl⟩) hP hD hS hA (fun u2 H locs h2 hP hD hS => ?_)
  have hP : va_P D vwCl (mW kI kJ u2 S0M (fun _ => 0) ++ xW kI kL u1 u1 S00 N00 (fun _ => none) 0) H := hP
  have hD : va_D (fun q : Nat => s.heap.size ≤ q) (mW kI kJ u2 S0M (fun _ => 0) ++ xW kI kL u1 u1 S00 N00 (fun _ => none) 0) := hD
  have hP := qb_swapP hP
  have hD := qb_swapD hD
  refine W.widen (k := 23) (n := 4369) (by omega) (by omega) ?_
  refine lv_astore_n (lv' := [(2, .ref m0), (1, .ref x0), (0, .ref b)]) hx hb dL_law_15 rfl hl (by decide) rfl (fun ls hl => ?_)
  refine lv_iconst (v := 1) hx hb dL_law_16 (by decide) ?_
  refine va_newa (atype := .long) (ty := .long) (n := 1) (N' := 1) (a0 := (1, .inr (.inl (fun _ => 0)))) hx hb (hts (.arrayClass .long) (by decide +kernel)) rfl hK hP hD hS hA (fun _ => rfl) (by decide) (by decide) (by decide) (Nat.le_of_ble_eq_true rfl) (Nat.le_of_ble_eq_true rfl) dL_law_17 (fun o cA H hK1 hP hD hS => ?_)
  have eA := cA_long hK1
  rw [eA, List.append_assoc] at hP hD
  refine W.widen (k := 24) (n := 4370) (by omega) (by omega) ?_
  refine lv_astore_n (lv' := [(3, .ref o), (2, .ref m0), (1, .ref x0), (0, .ref b)]) hx hb dL_law_19 rfl hl (by decide) rfl (fun ls hl => ?_)
  refine lv_iconst (v := 0) hx hb dL_law_20 (by decide) ?_
  refine lv_istore (lv' := [(4, .int 0), (3, .ref o), (2, .ref m0), (1, .ref x0), (0, .ref b)]) hx hb dL_law_21 hl (by decide) rfl (fun ls hl => ?_)
  exact law_loop l hlt hL C0 K0 L 0 (by omega) _ _ _ ⟨u1, u1, S00, N00, fun _ => none, 0, 0, u2, S0M, fun _ => 0, fun _ => 0, h1, h2, R0, fun j hj => absurd hj (Nat.not_lt_zero _), hP, hD, hS⟩ (lv_sub hl [0, 4, 3, 2, 1] rfl) (by omega)
