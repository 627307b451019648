set_option maxHeartbeats 4000000 in
set_option maxRecDepth 100000 in
theorem lwc_6 {p : Program} {e : Env} {s : State} {m : MethodId} {below : List Frame} {meth : Method} {c : Code} (l : Launch) (hlt : l.stackTraces = false) {b L : Nat} {xs : Nat → Int32} (hL : L ≤ 3072) (C0 : lw_At p s m meth c b L xs) {D : va_G} {kI kJ kL : ClassId} {sa1 sa2 x y o : Nat} (K0 : lwK D kI kJ kL sa1 sa2 s) {i : Nat} (hi : i + 6 ≤ L) {cells slots : Nat} (hc : cells + 5 ≤ 603072) (hs : slots + 40 ≤ 7262314)
    (cont : ∀ (H : Heap) (locs : List Loc) (ls : Array Slot), lwI D kI kJ kL s x y o H locs → lv_has ls 8 [(4, .int (nI i)), (0, .ref b), (1, .ref x), (2, .ref y), (3, .ref o)] → W p l e room_1 s m #[Value.ref b] below meth c H locs (cells + 5) (slots + 40) (lw_Z below #[Value.ref b] s) (F0 m 1124 ls []))
    (H : Heap) (locs : List Loc) (ls : Array Slot) (hI : lwI D kI kJ kL s x y o H locs) (hl : lv_has ls 8 [(4, .int (nI i)), (0, .ref b), (1, .ref x), (2, .ref y), (3, .ref o)]) : W p l e room_1 s m #[Value.ref b] below meth c H locs cells slots (lw_Z below #[Value.ref b] s) (F0 m 346 ls []) := by
  obtain ⟨hx, hb, hr, hml, hown0, hts0, hX, hbl, hlocks, hgv⟩ := C0
  have hown := hownL hown0
  have hts : ∀ w ∈ wsL_law, w.before #[Value.ref b] s = true := fun w h => hts0 w (wsL_law_in w h)
  obtain ⟨hK, hN, hT, hNc⟩ := K0
  have hA : ∀ q : Nat, s.heap.size ≤ q → (fun q : Nat => s.heap.size ≤ q) q := fun _ h => h
  have hbA : ¬ (fun q : Nat => s.heap.size ≤ q) b := Nat.not_le.mpr hbl
  obtain ⟨a, q, S, N, F, B, n, am, M, G, g, rfl, rfl, h, hF, hP, hD, hS⟩ := hI
  have h0 := h.f0 0
  obtain ⟨p1, e1⟩ : ∃ v : Int32, xs (nI i + nI 1).toNatClampNeg = v := ⟨_, rfl⟩
  refine lv_aload_n hx hb dL_law_346 rfl (lv_at hl 2 rfl) ?_
  refine lv_aload_n hx hb dL_law_347 rfl (lv_at hl 1 rfl) ?_
  refine lv_iload hx hb dL_law_348 (lv_at hl 0 rfl) ?_
  refine lv_iconst (v := 1) hx hb dL_law_350 (by decide) ?_
  refine lv_iadd hx hb dL_law_351 ?_
  refine q_sld hx hb hX hbl hbA hS (sc_in 1 hi hL (by omega)) e1 dL_law_352 ?_
  refine qw_i (w2 := (mW kI kJ am M G ++ [(o, .inl (kJ, 1, .inr (.inl g)))])) (va_runV (As := [.int p1]) (rest := []) ⟨hx, hb, hml, hown, hts⟩ (c_X1_date l D kI kJ kL a q S N F B H.size p1 h.s110) (cwV 1 hts gL_law_X1_date rfl rfl rfl (by decide +kernel) ⟨Nat.le_of_ble_eq_true rfl, Nat.le_of_ble_eq_true rfl⟩) (q_wV (w2 := (mW kI kJ am M G ++ [(o, .inl (kJ, 1, .inr (.inl g)))])) hK hN hP hD (va_recv hK hP (ci := 4) (q0 := 0) rfl rfl)) rfl rfl hl.1 rfl (lv_room (Nat.le_of_ble_eq_true rfl)) dL_law_353 ⟨by show cells + 0 ≤ 603072; omega, by show slots + 0 ≤ 7262314; omega⟩) hP hD hS hA (fun r1 u1 H locs h1 hP hD hS => ?_)
  obtain ⟨rfl, rfl⟩ := h1
  have hP : va_P D vwCl (xW kI kL a q (xs_date S p1).2 N F B ++ (mW kI kJ am M G ++ [(o, .inl (kJ, 1, .inr (.inl g)))])) H := hP
  have hD : va_D (fun q : Nat => s.heap.size ≤ q) (xW kI kL a q (xs_date S p1).2 N F B ++ (mW kI kJ am M G ++ [(o, .inl (kJ, 1, .inr (.inl g)))])) := hD
  have hP := rotP hP
  have hD := rotD hD
  refine lv_aload_n hx hb dL_law_356 rfl (lv_at hl 3 rfl) ?_
  refine lv_aload_n hx hb dL_law_357 rfl (lv_at hl 1 rfl) ?_
  refine lv_iload hx hb dL_law_358 (lv_at hl 0 rfl) ?_
  refine lv_iconst (v := 1) hx hb dL_law_360 (by decide) ?_
  refine lv_iadd hx hb dL_law_361 ?_
  refine q_sld hx hb hX hbl hbA hS (sc_in 1 hi hL (by omega)) e1 dL_law_362 ?_
  refine qw_i (w2 := ([(o, .inl (kJ, 1, .inr (.inl g)))] ++ xW kI kL a q (xs_date S p1).2 N F B)) (va_runV (As := [.int p1]) (rest := [.int ((xs_date S p1).1)]) ⟨hx, hb, hml, hown, hts⟩ (c_X2_date l D kI kJ kL am M G H.size p1 n h.m6 h.n110 h.fm) (cwV 1 hts gL_law_X2_date rfl rfl rfl (by decide +kernel) ⟨Nat.le_of_ble_eq_true rfl, Nat.le_of_ble_eq_true rfl⟩) (q_wV (w2 := ([(o, .inl (kJ, 1, .inr (.inl g)))] ++ xW kI kL a q (xs_date S p1).2 N F B)) hK hN hP hD (va_recv hK hP (ci := 5) (q0 := 0) rfl rfl)) rfl rfl hl.1 rfl (lv_room (Nat.le_of_ble_eq_true rfl)) dL_law_363 ⟨by show cells + 0 ≤ 603072; omega, by show slots + 0 ≤ 7262314; omega⟩) hP hD hS hA (fun r2 u2 H locs h2 hP hD hS => ?_)
  obtain ⟨rfl, rfl⟩ := h2
  obtain ⟨hE, hR⟩ := R_date h0 p1
  have hP : va_P D vwCl (mW kI kJ am (ms_date (sU M 16 0 0) p1).2 G ++ ([(o, .inl (kJ, 1, .inr (.inl g)))] ++ xW kI kL a q (xs_date S p1).2 N F B)) H := hP
  have hD : va_D (fun q : Nat => s.heap.size ≤ q) (mW kI kJ am (ms_date (sU M 16 0 0) p1).2 G ++ ([(o, .inl (kJ, 1, .inr (.inl g)))] ++ xW kI kL a q (xs_date S p1).2 N F B)) := hD
  have hP := rotP (rotP hP)
  have hD := rotD (rotD hD)
  refine lv_icmp_eq (tgt := 1124) hx hb dL_law_366 (by decide) (fun c9 => ?_) (fun c9 => absurd hE c9)
  exact W.widen (k := cells + 5) (n := slots + 40) (by omega) (by omega) (cont _ _ _ ⟨a, q, _, N, F, B, n, am, _, _, g, rfl, rfl, hR, hF, hP, hD, hS⟩ hl)
set_option maxHeartbeats 4000000 in
set_option maxRecDepth 100000 in
theorem lwc_7 {p : Program} {e : Env} {s : State} {m : MethodId} {below : List Frame} {meth : Method} {c : Code} (l : Launch) (hlt : l.stackTraces = false) {b L : Nat} {xs : Nat → Int32} (hL : L ≤ 3072) (C0 : lw_At p s m meth c b L xs) {D : va_G} {kI kJ kL : ClassId} {sa1 sa2 x y o : Nat} (K0 : lwK D kI kJ kL sa1 sa2 s) {i : Nat} (hi : i + 6 ≤ L) {cells slots : Nat} (hc : cells + 5 ≤ 603072) (hs : slots + 40 ≤ 7262314)
    (cont : ∀ (H : Heap) (locs : List Loc) (ls : Array Slot), lwI D kI kJ kL s x y o H locs → lv_has ls 8 [(4, .int (nI i)), (0, .ref b), (1, .ref x), (2, .ref y), (3, .ref o)] → W p l e room_1 s m #[Value.ref b] below meth c H locs (cells + 5) (slots + 40) (lw_Z below #[Value.ref b] s) (F0 m 1124 ls []))
    (H : Heap) (locs : List Loc) (ls : Array Slot) (hI : lwI D kI kJ kL s x y o H locs) (hl : lv_has ls 8 [(4, .int (nI i)), (0, .ref b), (1, .ref x), (2, .ref y), (3, .ref o)]) : W p l e room_1 s m #[Value.ref b] below meth c H locs cells slots (lw_Z below #[Value.ref b] s) (F0 m 371 ls []) := by
  obtain ⟨hx, hb, hr, hml, hown0, hts0, hX, hbl, hlocks, hgv⟩ := C0
  have hown := hownL hown0
  have hts : ∀ w ∈ wsL_law, w.before #[Value.ref b] s = true := fun w h => hts0 w (wsL_law_in w h)
  obtain ⟨hK, hN, hT, hNc⟩ := K0
  have hA : ∀ q : Nat, s.heap.size ≤ q → (fun q : Nat => s.heap.size ≤ q) q := fun _ h => h
  have hbA : ¬ (fun q : Nat => s.heap.size ≤ q) b := Nat.not_le.mpr hbl
  obtain ⟨a, q, S, N, F, B, n, am, M, G, g, rfl, rfl, h, hF, hP, hD, hS⟩ := hI
  have h0 := h.f0 0
  obtain ⟨p1, e1⟩ : ∃ v : Int32, xs (nI i + nI 1).toNatClampNeg = v := ⟨_, rfl⟩
  obtain ⟨p2, e2⟩ : ∃ v : Int32, xs (nI i + nI 2).toNatClampNeg = v := ⟨_, rfl⟩
  refine lv_aload_n hx hb dL_law_371 rfl (lv_at hl 2 rfl) ?_
  refine lv_aload_n hx hb dL_law_372 rfl (lv_at hl 1 rfl) ?_
  refine lv_iload hx hb dL_law_373 (lv_at hl 0 rfl) ?_
  refine lv_iconst (v := 1) hx hb dL_law_375 (by decide) ?_
  refine lv_iadd hx hb dL_law_376 ?_
  refine q_sld hx hb hX hbl hbA hS (sc_in 1 hi hL (by omega)) e1 dL_law_377 ?_
  refine lv_aload_n hx hb dL_law_378 rfl (lv_at hl 1 rfl) ?_
  refine lv_iload hx hb dL_law_379 (lv_at hl 0 rfl) ?_
  refine lv_iconst (v := 2) hx hb dL_law_381 (by decide) ?_
  refine lv_iadd hx hb dL_law_382 ?_
  refine q_sld hx hb hX hbl hbA hS (sc_in 2 hi hL (by omega)) e2 dL_law_383 ?_
  refine qw_i (w2 := (mW kI kJ am M G ++ [(o, .inl (kJ, 1, .inr (.inl g)))])) (va_runV (As := [.int p1, .int p2]) (rest := []) ⟨hx, hb, hml, hown, hts⟩ (c_X1_size l D kI kJ kL a q S N F B H.size p1 p2 h.s110) (cwV 2 hts gL_law_X1_size rfl rfl rfl (by decide +kernel) ⟨Nat.le_of_ble_eq_true rfl, Nat.le_of_ble_eq_true rfl⟩) (q_wV (w2 := (mW kI kJ am M G ++ [(o, .inl (kJ, 1, .inr (.inl g)))])) hK hN hP hD (va_recv hK hP (ci := 4) (q0 := 0) rfl rfl)) rfl rfl hl.1 rfl (lv_room (Nat.le_of_ble_eq_true rfl)) dL_law_384 ⟨by show cells + 0 ≤ 603072; omega, by show slots + 0 ≤ 7262314; omega⟩) hP hD hS hA (fun r1 u1 H locs h1 hP hD hS => ?_)
  obtain ⟨rfl, rfl⟩ := h1
  have hP : va_P D vwCl (xW kI kL a q (xs_size S p1 p2).2 N F B ++ (mW kI kJ am M G ++ [(o, .inl (kJ, 1, .inr (.inl g)))])) H := hP
  have hD : va_D (fun q : Nat => s.heap.size ≤ q) (xW kI kL a q (xs_size S p1 p2).2 N F B ++ (mW kI kJ am M G ++ [(o, .inl (kJ, 1, .inr (.inl g)))])) := hD
  have hP := rotP hP
  have hD := rotD hD
  refine lv_aload_n hx hb dL_law_387 rfl (lv_at hl 3 rfl) ?_
  refine lv_aload_n hx hb dL_law_388 rfl (lv_at hl 1 rfl) ?_
  refine lv_iload hx hb dL_law_389 (lv_at hl 0 rfl) ?_
  refine lv_iconst (v := 1) hx hb dL_law_391 (by decide) ?_
  refine lv_iadd hx hb dL_law_392 ?_
  refine q_sld hx hb hX hbl hbA hS (sc_in 1 hi hL (by omega)) e1 dL_law_393 ?_
  refine lv_aload_n hx hb dL_law_394 rfl (lv_at hl 1 rfl) ?_
  refine lv_iload hx hb dL_law_395 (lv_at hl 0 rfl) ?_
  refine lv_iconst (v := 2) hx hb dL_law_397 (by decide) ?_
  refine lv_iadd hx hb dL_law_398 ?_
  refine q_sld hx hb hX hbl hbA hS (sc_in 2 hi hL (by omega)) e2 dL_law_399 ?_
  refine qw_i (w2 := ([(o, .inl (kJ, 1, .inr (.inl g)))] ++ xW kI kL a q (xs_size S p1 p2).2 N F B)) (va_runV (As := [.int p1, .int p2]) (rest := [.int ((xs_size S p1 p2).1)]) ⟨hx, hb, hml, hown, hts⟩ (c_X2_size l D kI kJ kL am M G H.size p1 p2 n h.m6 h.n110 h.fm) (cwV 2 hts gL_law_X2_size rfl rfl rfl (by decide +kernel) ⟨Nat.le_of_ble_eq_true rfl, Nat.le_of_ble_eq_true rfl⟩) (q_wV (w2 := ([(o, .inl (kJ, 1, .inr (.inl g)))] ++ xW kI kL a q (xs_size S p1 p2).2 N F B)) hK hN hP hD (va_recv hK hP (ci := 5) (q0 := 0) rfl rfl)) rfl rfl hl.1 rfl (lv_room (Nat.le_of_ble_eq_true rfl)) dL_law_400 ⟨by show cells + 0 ≤ 603072; omega, by show slots + 0 ≤ 7262314; omega⟩) hP hD hS hA (fun r2 u2 H locs h2 hP hD hS => ?_)
  obtain ⟨rfl, rfl⟩ := h2
  obtain ⟨hE, hR⟩ := R_size h0 p1 p2
  have hP : va_P D vwCl (mW kI kJ am (ms_size (sU M 16 0 0) p1 p2).2 G ++ ([(o, .inl (kJ, 1, .inr (.inl g)))] ++ xW kI kL a q (xs_size S p1 p2).2 N F B)) H := hP
  have hD : va_D (fun q : Nat => s.heap.size ≤ q) (mW kI kJ am (ms_size (sU M 16 0 0) p1 p2).2 G ++ ([(o, .inl (kJ, 1, .inr (.inl g)))] ++ xW kI kL a q (xs_size S p1 p2).2 N F B)) := hD
  have hP := rotP (rotP hP)
  have hD := rotD (rotD hD)
  refine lv_icmp_eq (tgt := 1124) hx hb dL_law_403 (by decide) (fun c9 => ?_) (fun c9 => absurd hE c9)
  exact W.widen (k := cells + 5) (n := slots + 40) (by omega) (by omega) (cont _ _ _ ⟨a, q, _, N, F, B, n, am, _, _, g, rfl, rfl, hR, hF, hP, hD, hS⟩ hl)
set_option maxHeartbeats 4000000 in
set_option maxRecDepth 100000 in
theorem lwc_8 {p : Program} {e : Env} {s : State} {m : MethodId} {below : List Frame} {meth : Method} {c : Code} (l : Launch) (hlt : l.stackTraces = false) {b L : Nat} {xs : Nat → Int32} (hL : L ≤ 3072) (C0 : lw_At p s m meth c b L xs) {D : va_G} {kI kJ kL : ClassId} {sa1 sa2 x y o : Nat} (K0 : lwK D kI kJ kL sa1 sa2 s) {i : Nat} (hi : i + 6 ≤ L) {cells slots : Nat} (hc : cells + 5 ≤ 603072) (hs : slots + 40 ≤ 7262314)
    (cont : ∀ (H : Heap) (locs : List Loc) (ls : Array Slot), lwI D kI kJ kL s x y o H locs → lv_has ls 8 [(4, .int (nI i)), (0, .ref b), (1, .ref x), (2, .ref y), (3, .ref o)] → W p l e room_1 s m #[Value.ref b] below meth c H locs (cells + 5) (slots + 40) (lw_Z below #[Value.ref b] s) (F0 m 1124 ls []))
    (H : Heap) (locs : List Loc) (ls : Array Slot) (hI : lwI D kI kJ kL s x y o H locs) (hl : lv_has ls 8 [(4, .int (nI i)), (0, .ref b), (1, .ref x), (2, .ref y), (3, .ref o)]) : W p l e room_1 s m #[Value.ref b] below meth c H locs cells slots (lw_Z below #[Value.ref b] s) (F0 m 408 ls []) := by
  obtain ⟨hx, hb, hr, hml, hown0, hts0, hX, hbl, hlocks, hgv⟩ := C0
  have hown := hownL hown0
  have hts : ∀ w ∈ wsL_law, w.before #[Value.ref b] s = true := fun w h => hts0 w (wsL_law_in w h)
  obtain ⟨hK, hN, hT, hNc⟩ := K0
  have hA : ∀ q : Nat, s.heap.size ≤ q → (fun q : Nat => s.heap.size ≤ q) q := fun _ h => h
  have hbA : ¬ (fun q : Nat => s.heap.size ≤ q) b := Nat.not_le.mpr hbl
  obtain ⟨a, q, S, N, F, B, n, am, M, G, g, rfl, rfl, h, hF, hP, hD, hS⟩ := hI
  have h0 := h.f0 0
  obtain ⟨p1, e1⟩ : ∃ v : Int32, xs (nI i + nI 1).toNatClampNeg = v := ⟨_, rfl⟩
  obtain ⟨p2, e2⟩ : ∃ v : Int32, xs (nI i + nI 2).toNatClampNeg = v := ⟨_, rfl⟩
  obtain ⟨p3, e3⟩ : ∃ v : Int32, xs (nI i + nI 3).toNatClampNeg = v := ⟨_, rfl⟩
  obtain ⟨p4, e4⟩ : ∃ v : Int32, xs (nI i + nI 4).toNatClampNeg = v := ⟨_, rfl⟩
  obtain ⟨p5, e5⟩ : ∃ v : Int32, xs (nI i + nI 5).toNatClampNeg = v := ⟨_, rfl⟩
  obtain ⟨p9, e9⟩ : ∃ v : Int64, (p4.toInt64 <<< ((32 : Int32).toInt64 &&& 63)) ||| (p5.toInt64 &&& 4294967295) = v := ⟨_, rfl⟩
  refine lv_aload_n hx hb dL_law_408 rfl (lv_at hl 2 rfl) ?_
  refine lv_aload_n hx hb dL_law_409 rfl (lv_at hl 1 rfl) ?_
  refine lv_iload hx hb dL_law_410 (lv_at hl 0 rfl) ?_
  refine lv_iconst (v := 1) hx hb dL_law_412 (by decide) ?_
  refine lv_iadd hx hb dL_law_413 ?_
  refine q_sld hx hb hX hbl hbA hS (sc_in 1 hi hL (by omega)) e1 dL_law_414 ?_
  refine lv_aload_n hx hb dL_law_415 rfl (lv_at hl 1 rfl) ?_
  refine lv_iload hx hb dL_law_416 (lv_at hl 0 rfl) ?_
  refine lv_iconst (v := 2) hx hb dL_law_418 (by decide) ?_
  refine lv_iadd hx hb dL_law_419 ?_
  refine q_sld hx hb hX hbl hbA hS (sc_in 2 hi hL (by omega)) e2 dL_law_420 ?_
  refine lv_aload_n hx hb dL_law_421 rfl (lv_at hl 1 rfl) ?_
  refine lv_iload hx hb dL_law_422 (lv_at hl 0 rfl) ?_
  refine lv_iconst (v := 3) hx hb dL_law_424 (by decide) ?_
  refine lv_iadd hx hb dL_law_425 ?_
  refine q_sld hx hb hX hbl hbA hS (sc_in 3 hi hL (by omega)) e3 dL_law_426 ?_
  refine lv_aload_n hx hb dL_law_427 rfl (lv_at hl 1 rfl) ?_
  refine lv_iload hx hb dL_law_428 (lv_at hl 0 rfl) ?_
  refine lv_iconst (v := 4) hx hb dL_law_430 (by decide) ?_
  refine lv_iadd hx hb dL_law_431 ?_
  refine q_sld hx hb hX hbl hbA hS (sc_in 4 hi hL (by omega)) e4 dL_law_432 ?_
  refine lv_i2l hx hb dL_law_433 rfl ?_
  refine lv_bipush (v := 32) hx hb dL_law_434 (by decide) ?_
  refine lv_lshl hx hb dL_law_436 rfl ?_
  refine lv_aload_n hx hb dL_law_437 rfl (lv_at hl 1 rfl) ?_
  refine lv_iload hx hb dL_law_438 (lv_at hl 0 rfl) ?_
  refine lv_iconst (v := 5) hx hb dL_law_440 (by decide) ?_
  refine lv_iadd hx hb dL_law_441 ?_
  refine q_sld hx hb hX hbl hbA hS (sc_in 5 hi hL (by omega)) e5 dL_law_442 ?_
  refine lv_i2l hx hb dL_law_443 rfl ?_
  refine lv_ldc2 hx hb hown (hts (.constantLong RL 56 (4294967295)) (by decide +kernel)) dL_law_444 ?_
  refine lv_land hx hb dL_law_447 ?_
  refine lv_lor hx hb dL_law_448 ?_
  refine lv_topl (fun v9 ev9 => ?_)
  rw [e9] at ev9
  rw [ev9]
  refine qw_i (w2 := (mW kI kJ am M G ++ [(o, .inl (kJ, 1, .inr (.inl g)))])) (va_runV (As := [.int p1, .int p2, .int p3, .long p9]) (rest := []) ⟨hx, hb, hml, hown, hts⟩ (c_X1_write l D kI kJ kL a q S N F B H.size p1 p2 p3 p9 h.s110 h.z10) (cwV 4 hts gL_law_X1_write rfl rfl rfl (by decide +kernel) ⟨Nat.le_of_ble_eq_true rfl, Nat.le_of_ble_eq_true rfl⟩) (q_wV (w2 := (mW kI kJ am M G ++ [(o, .inl (kJ, 1, .inr (.inl g)))])) hK hN hP hD (va_recv hK hP (ci := 4) (q0 := 0) rfl rfl)) rfl rfl hl.1 rfl (lv_room (Nat.le_of_ble_eq_true rfl)) dL_law_449 ⟨by show cells + 0 ≤ 603072; omega, by show slots + 0 ≤ 7262314; omega⟩) hP hD hS hA (fun r1 u1 H locs h1 hP hD hS => ?_)
  obtain ⟨rfl, rfl⟩ := h1
  have hP : va_P D vwCl (xW kI kL a q (xs_write S p1 p2 p3 p9).2 N F B ++ (mW kI kJ am M G ++ [(o, .inl (kJ, 1, .inr (.inl g)))])) H := hP
  have hD : va_D (fun q : Nat => s.heap.size ≤ q) (xW kI kL a q (xs_write S p1 p2 p3 p9).2 N F B ++ (mW kI kJ am M G ++ [(o, .inl (kJ, 1, .inr (.inl g)))])) := hD
  have hP := rotP hP
  have hD := rotD hD
  refine lv_aload_n hx hb dL_law_452 rfl (lv_at hl 3 rfl) ?_
  refine lv_aload_n hx hb dL_law_453 rfl (lv_at hl 1 rfl) ?_
  refine lv_iload hx hb dL_law_454 (lv_at hl 0 rfl) ?_
  refine lv_iconst (v := 1) hx hb dL_law_456 (by decide) ?_
  refine lv_iadd hx hb dL_law_457 ?_
  refine q_sld hx hb hX hbl hbA hS (sc_in 1 hi hL (by omega)) e1 dL_law_458 ?_
  refine lv_aload_n hx hb dL_law_459 rfl (lv_at hl 1 rfl) ?_
  refine lv_iload hx hb dL_law_460 (lv_at hl 0 rfl) ?_
  refine lv_iconst (v := 2) hx hb dL_law_462 (by decide) ?_
  refine lv_iadd hx hb dL_law_463 ?_
  refine q_sld hx hb hX hbl hbA hS (sc_in 2 hi hL (by omega)) e2 dL_law_464 ?_
  refine lv_aload_n hx hb dL_law_465 rfl (lv_at hl 1 rfl) ?_
  refine lv_iload hx hb dL_law_466 (lv_at hl 0 rfl) ?_
  refine lv_iconst (v := 3) hx hb dL_law_468 (by decide) ?_
  refine lv_iadd hx hb dL_law_469 ?_
  refine q_sld hx hb hX hbl hbA hS (sc_in 3 hi hL (by omega)) e3 dL_law_470 ?_
  refine lv_aload_n hx hb dL_law_471 rfl (lv_at hl 1 rfl) ?_
  refine lv_iload hx hb dL_law_472 (lv_at hl 0 rfl) ?_
  refine lv_iconst (v := 4) hx hb dL_law_474 (by decide) ?_
  refine lv_iadd hx hb dL_law_475 ?_
  refine q_sld hx hb hX hbl hbA hS (sc_in 4 hi hL (by omega)) e4 dL_law_476 ?_
  refine lv_i2l hx hb dL_law_477 rfl ?_
  refine lv_bipush (v := 32) hx hb dL_law_478 (by decide) ?_
  refine lv_lshl hx hb dL_law_480 rfl ?_
  refine lv_aload_n hx hb dL_law_481 rfl (lv_at hl 1 rfl) ?_
  refine lv_iload hx hb dL_law_482 (lv_at hl 0 rfl) ?_
  refine lv_iconst (v := 5) hx hb dL_law_484 (by decide) ?_
  refine lv_iadd hx hb dL_law_485 ?_
  refine q_sld hx hb hX hbl hbA hS (sc_in 5 hi hL (by omega)) e5 dL_law_486 ?_
  refine lv_i2l hx hb dL_law_487 rfl ?_
  refine lv_ldc2 hx hb hown (hts (.constantLong RL 56 (4294967295)) (by decide +kernel)) dL_law_488 ?_
  refine lv_land hx hb dL_law_491 ?_
  refine lv_lor hx hb dL_law_492 ?_
  refine lv_topl (fun v9 ev9 => ?_)
  rw [e9] at ev9
  rw [ev9]
  refine qw_i (w2 := ([(o, .inl (kJ, 1, .inr (.inl g)))] ++ xW kI kL a q (xs_write S p1 p2 p3 p9).2 N F B)) (va_runV (As := [.int p1, .int p2, .int p3, .long p9]) (rest := [.int ((xs_write S p1 p2 p3 p9).1)]) ⟨hx, hb, hml, hown, hts⟩ (c_X2_write l D kI kJ kL am M G H.size p1 p2 p3 p9 n h.m6 h.n110 h.fm h.ssz) (cwV 4 hts gL_law_X2_write rfl rfl rfl (by decide +kernel) ⟨Nat.le_of_ble_eq_true rfl, Nat.le_of_ble_eq_true rfl⟩) (q_wV (w2 := ([(o, .inl (kJ, 1, .inr (.inl g)))] ++ xW kI kL a q (xs_write S p1 p2 p3 p9).2 N F B)) hK hN hP hD (va_recv hK hP (ci := 5) (q0 := 0) rfl rfl)) rfl rfl hl.1 rfl (lv_room (Nat.le_of_ble_eq_true rfl)) dL_law_493 ⟨by show cells + 0 ≤ 603072; omega, by show slots + 0 ≤ 7262314; omega⟩) hP hD hS hA (fun r2 u2 H locs h2 hP hD hS => ?_)
  obtain ⟨rfl, rfl⟩ := h2
  obtain ⟨hE, n2, hR⟩ := R_write h0 p1 p2 p3 p9
  have hP : va_P D vwCl (mW kI kJ am (ms_write (sU M 16 0 0) G p1 p2 p3 p9).2.1 (ms_write (sU M 16 0 0) G p1 p2 p3 p9).2.2 ++ ([(o, .inl (kJ, 1, .inr (.inl g)))] ++ xW kI kL a q (xs_write S p1 p2 p3 p9).2 N F B)) H := hP
  have hD : va_D (fun q : Nat => s.heap.size ≤ q) (mW kI kJ am (ms_write (sU M 16 0 0) G p1 p2 p3 p9).2.1 (ms_write (sU M 16 0 0) G p1 p2 p3 p9).2.2 ++ ([(o, .inl (kJ, 1, .inr (.inl g)))] ++ xW kI kL a q (xs_write S p1 p2 p3 p9).2 N F B)) := hD
  have hP := rotP (rotP hP)
  have hD := rotD (rotD hD)
  refine lv_icmp_eq (tgt := 1124) hx hb dL_law_496 (by decide) (fun c9 => ?_) (fun c9 => absurd hE c9)
  exact W.widen (k := cells + 5) (n := slots + 40) (by omega) (by omega) (cont _ _ _ ⟨a, q, _, N, F, B, n2, am, _, _, g, rfl, rfl, hR, hF, hP, hD, hS⟩ hl)
set_option maxHeartbeats 4000000 in
set_option maxRecDepth 100000 in
theorem lwc_9 {p : Program} {e : Env} {s : State} {m : MethodId} {below : List Frame} {meth : Method} {c : Code} (l : Launch) (hlt : l.stackTraces = false) {b L : Nat} {xs : Nat → Int32} (hL : L ≤ 3072) (C0 : lw_At p s m meth c b L xs) {D : va_G} {kI kJ kL : ClassId} {sa1 sa2 x y o : Nat} (K0 : lwK D kI kJ kL sa1 sa2 s) {i : Nat} (hi : i + 6 ≤ L) {cells slots : Nat} (hc : cells + 5 ≤ 603072) (hs : slots + 40 ≤ 7262314)
    (cont : ∀ (H : Heap) (locs : List Loc) (ls : Array Slot), lwI D kI kJ kL s x y o H locs → lv_has ls 8 [(4, .int (nI i)), (0, .ref b), (1, .ref x), (2, .ref y), (3, .ref o)] → W p l e room_1 s m #[Value.ref b] below meth c H locs (cells + 5) (slots + 40) (lw_Z below #[Value.ref b] s) (F0 m 1124 ls []))
    (H : Heap) (locs : List Loc) (ls : Array Slot) (hI : lwI D kI kJ kL s x y o H locs) (hl : lv_has ls 8 [(4, .int (nI i)), (0, .ref b), (1, .ref x), (2, .ref y), (3, .ref o)]) : W p l e room_1 s m #[Value.ref b] below meth c H locs cells slots (lw_Z below #[Value.ref b] s) (F0 m 501 ls []) := by
  obtain ⟨hx, hb, hr, hml, hown0, hts0, hX, hbl, hlocks, hgv⟩ := C0
  have hown := hownL hown0
  have hts : ∀ w ∈ wsL_law, w.before #[Value.ref b] s = true := fun w h => hts0 w (wsL_law_in w h)
  obtain ⟨hK, hN, hT, hNc⟩ := K0
  have hA : ∀ q : Nat, s.heap.size ≤ q → (fun q : Nat => s.heap.size ≤ q) q := fun _ h => h
  have hbA : ¬ (fun q : Nat => s.heap.size ≤ q) b := Nat.not_le.mpr hbl
  obtain ⟨a, q, S, N, F, B, n, am, M, G, g, rfl, rfl, h, hF, hP, hD, hS⟩ := hI
  have h0 := h.f0 0
  obtain ⟨p1, e1⟩ : ∃ v : Int32, xs (nI i + nI 1).toNatClampNeg = v := ⟨_, rfl⟩
  obtain ⟨p2, e2⟩ : ∃ v : Int32, xs (nI i + nI 2).toNatClampNeg = v := ⟨_, rfl⟩
  obtain ⟨p3, e3⟩ : ∃ v : Int32, xs (nI i + nI 3).toNatClampNeg = v := ⟨_, rfl⟩
  have htsT : ∀ w ∈ wsL_lawT, w.before #[Value.ref b] s = true := fun w h => hts0 w (wsL_lawT_in w h)
  have hP := rotP (rotP hP)
  have hD := rotD (rotD hD)
  rw [← List.append_assoc] at hP hD
  refine lv_aload_n hx hb dL_law_501 rfl (lv_at hl 2 rfl) ?_
  refine lv_aload_n hx hb dL_law_502 rfl (lv_at hl 1 rfl) ?_
  refine lv_iload hx hb dL_law_503 (lv_at hl 0 rfl) ?_
  refine lv_iconst (v := 1) hx hb dL_law_505 (by decide) ?_
  refine lv_iadd hx hb dL_law_506 ?_
  refine q_sld hx hb hX hbl hbA hS (sc_in 1 hi hL (by omega)) e1 dL_law_507 ?_
  refine lv_aload_n hx hb dL_law_508 rfl (lv_at hl 1 rfl) ?_
  refine lv_iload hx hb dL_law_509 (lv_at hl 0 rfl) ?_
  refine lv_iconst (v := 2) hx hb dL_law_511 (by decide) ?_
  refine lv_iadd hx hb dL_law_512 ?_
  refine q_sld hx hb hX hbl hbA hS (sc_in 2 hi hL (by omega)) e2 dL_law_513 ?_
  refine lv_aload_n hx hb dL_law_514 rfl (lv_at hl 1 rfl) ?_
  refine lv_iload hx hb dL_law_515 (lv_at hl 0 rfl) ?_
  refine lv_iconst (v := 3) hx hb dL_law_517 (by decide) ?_
  refine lv_iadd hx hb dL_law_518 ?_
  refine q_sld hx hb hX hbl hbA hS (sc_in 3 hi hL (by omega)) e3 dL_law_519 ?_
  refine lv_aload_n hx hb dL_law_520 rfl (lv_at hl 4 rfl) ?_
  refine qw_i (w2 := mW kI kJ am M G) (vx_runSW (As := [.ref (a 0), .int p1, .int p2, .int p3, .ref o]) (rest := []) ⟨hx, hb, hml, hown, htsT⟩ (c_L_read l hlt D kI kJ kL a q S N F B o g H.size sa1 sa2 p1 p2 p3 h.s110 h.z10) (vx_cwSW 5 htsT gL_lawT rfl rfl rfl (by decide +kernel) ⟨Nat.le_of_ble_eq_true rfl, Nat.le_of_ble_eq_true rfl⟩) (q_lS (w2 := mW kI kJ am M G) hK hN hT hNc hP hD hS hA) rfl rfl hl.1 rfl (lv_room (Nat.le_of_ble_eq_true rfl)) dL_law_521 ⟨by show cells + 1 ≤ 603072; omega, by show slots + 6 ≤ 7262314; omega⟩) hP hD hS hA (fun r1 u1 H locs h1 hP hD hS => ?_)
  have hP : va_P D vwCl (([(o, .inl (kJ, 1, .inr (.inl u1)))] ++ xW kI kL a q S N F B) ++ mW kI kJ am M G) H := hP
  have hD : va_D (fun q : Nat => s.heap.size ≤ q) (([(o, .inl (kJ, 1, .inr (.inl u1)))] ++ xW kI kL a q S N F B) ++ mW kI kJ am M G) := hD
  rw [List.append_assoc] at hP hD
  have hP := rotP (rotP hP)
  have hD := rotD (rotD hD)
  refine lv_istore (lv' := [(5, .int r1), (4, .int (nI i)), (0, .ref b), (1, .ref (a 0)), (2, .ref (am 0)), (3, .ref o)]) hx hb dL_law_524 hl (by decide) rfl (fun ls hl => ?_)
  refine lv_aload_n hx hb dL_law_526 rfl (lv_at hl 4 rfl) ?_
  refine lv_aload_n hx hb dL_law_527 rfl (lv_at hl 2 rfl) ?_
  refine lv_iload hx hb dL_law_528 (lv_at hl 1 rfl) ?_
  refine lv_iconst (v := 1) hx hb dL_law_530 (by decide) ?_
  refine lv_iadd hx hb dL_law_531 ?_
  refine q_sld hx hb hX hbl hbA hS (sc_in 1 hi hL (by omega)) e1 dL_law_532 ?_
  refine lv_aload_n hx hb dL_law_533 rfl (lv_at hl 2 rfl) ?_
  refine lv_iload hx hb dL_law_534 (lv_at hl 1 rfl) ?_
  refine lv_iconst (v := 2) hx hb dL_law_536 (by decide) ?_
  refine lv_iadd hx hb dL_law_537 ?_
  refine q_sld hx hb hX hbl hbA hS (sc_in 2 hi hL (by omega)) e2 dL_law_538 ?_
  refine lv_aload_n hx hb dL_law_539 rfl (lv_at hl 2 rfl) ?_
  refine lv_iload hx hb dL_law_540 (lv_at hl 1 rfl) ?_
  refine lv_iconst (v := 3) hx hb dL_law_542 (by decide) ?_
  refine lv_iadd hx hb dL_law_543 ?_
  refine q_sld hx hb hX hbl hbA hS (sc_in 3 hi hL (by omega)) e3 dL_law_544 ?_
  refine qw_l (w2 := ([(o, .inl (kJ, 1, .inr (.inl u1)))] ++ xW kI kL a q S N F B)) (va_runV (As := [.int p1, .int p2, .int p3]) (rest := []) ⟨hx, hb, hml, hown, hts⟩ (c_X2_read l D kI kJ kL am M G H.size p1 p2 p3 n h.m6 h.n110 h.fm h.ssz) (cwV 3 hts gL_law_X2_read rfl rfl rfl (by decide +kernel) ⟨Nat.le_of_ble_eq_true rfl, Nat.le_of_ble_eq_true rfl⟩) (q_wV (w2 := ([(o, .inl (kJ, 1, .inr (.inl u1)))] ++ xW kI kL a q S N F B)) hK hN hP hD (va_recv hK hP (ci := 5) (q0 := 0) rfl rfl)) rfl rfl hl.1 rfl (lv_room (Nat.le_of_ble_eq_true rfl)) dL_law_545 ⟨by show cells + 1 + 0 ≤ 603072; omega, by show slots + 6 + 0 ≤ 7262314; omega⟩) hP hD hS hA (fun r2 u2 H locs h2 hP hD hS => ?_)
  obtain ⟨rfl, rfl⟩ := h2
  have hP : va_P D vwCl (mW kI kJ am (ms_read (sU M 16 0 0) G p1 p2 p3).2 G ++ ([(o, .inl (kJ, 1, .inr (.inl u1)))] ++ xW kI kL a q S N F B)) H := hP
  have hD : va_D (fun q : Nat => s.heap.size ≤ q) (mW kI kJ am (ms_read (sU M 16 0 0) G p1 p2 p3).2 G ++ ([(o, .inl (kJ, 1, .inr (.inl u1)))] ++ xW kI kL a q S N F B)) := hD
  obtain ⟨a1, a2, hR⟩ := R_read2 h0 rfl h1
  generalize hz : ms_read (sU M 16 0 0) G p1 p2 p3 = z at hP hD a1 a2 hR ⊢
  obtain ⟨z1, z2⟩ := z
  refine lv_lstore (lv' := [(6, .long z1), (5, .int r1), (4, .int (nI i)), (0, .ref b), (1, .ref (a 0)), (2, .ref (am 0)), (3, .ref o)]) hx hb dL_law_548 hl (by decide) rfl (fun ls hl => ?_)
  refine lv_aload_n hx hb dL_law_550 rfl (lv_at hl 5 rfl) ?_
  refine vp_callSi (W.runV (As := []) (rest := []) ⟨hx, hb, hml, hown, hts⟩ (c_X2_thrown l D kI kJ kL am z2 G) (cwV 0 hts gL_law_X2_thrown rfl rfl rfl (by decide +kernel) ⟨Nat.le_of_ble_eq_true rfl, Nat.le_of_ble_eq_true rfl⟩) (q_rV (w2 := ([(o, .inl (kJ, 1, .inr (.inl u1)))] ++ xW kI kL a q S N F B)) hK hN hP (va_recv hK hP (ci := 5) (q0 := 0) rfl rfl)) rfl rfl hl.1 rfl (lv_room (Nat.le_of_ble_eq_true rfl)) dL_law_551 ⟨by show cells + 1 + 0 + 0 ≤ 603072; omega, by show slots + 6 + 0 + 0 ≤ 7262314; omega⟩) (fun r3 h3 => ?_)
  subst h3
  refine lv_iload hx hb dL_law_554 (lv_at hl 1 rfl) ?_
  refine lv_icmp_eq (tgt := 561) hx hb dL_law_556 (by decide) (fun c9 => ?_) (fun c9 => absurd a1 c9)
  have fin : ∀ (ls : Array Slot), lv_has ls 8 [(6, .long z1), (5, .int r1), (4, .int (nI i)), (0, .ref b), (1, .ref (a 0)), (2, .ref (am 0)), (3, .ref o)] → W p l e room_1 s m #[Value.ref b] below meth c H locs (cells + 1) (slots + 6) (lw_Z below #[Value.ref b] s) (F0 m 577 ls []) := by
    intro ls hl
    refine lv_goto (tgt := 1124) hx hb dL_law_577 (by decide) ?_
    exact W.widen (k := cells + 5) (n := slots + 40) (by omega) (by omega) (cont _ _ _ ⟨a, q, S, N, F, B, n, am, z2, G, u1, rfl, rfl, hR, hF, rotP (rotP hP), rotD (rotD hD), hS⟩ (lv_sub hl [2, 3, 4, 5, 6] rfl))
  refine lv_iload hx hb dL_law_561 (lv_at hl 1 rfl) ?_
  refine lv_if_ne (tgt := 577) hx hb dL_law_563 (by decide) (fun c8 => fin ls hl) (fun c8 => ?_)
  refine lv_aload_n hx hb dL_law_566 rfl (lv_at hl 6 rfl) ?_
  refine lv_iconst (v := 0) hx hb dL_law_567 (by decide) ?_
  refine va_lald (f := u1) hx hb hK (rotP hP) 0 1 rfl rfl (by unfold vp_in; decide) dL_law_568 ?_
  refine lv_lload hx hb dL_law_569 (lv_at hl 0 rfl) ?_
  refine W.lcmp hx hb dL_law_571 ?_
  have e9 : u1 (0 : Int32).toNatClampNeg = z1 := a2 c8
  refine lv_if_eq (tgt := 577) hx hb dL_law_572 (by decide) (fun c7 => fin ls hl) (fun c7 => absurd (by rw [e9]; exact cmp_self z1) c7)
