set_option maxHeartbeats 4000000 in
set_option maxRecDepth 100000 in
theorem lwc_10 {p : Program} {e : Env} {s : State} {m : MethodId} {below : List Frame} {meth : Method} {c : Code} (l : Launch) (hlt : l.stackTraces = false) {b L : Nat} {xs : Nat → Int32} (hL : L ≤ 3072) (C0 : lw_At p s m meth c b L xs) {D : va_G} {kI kJ kL : ClassId} {sa1 sa2 x y o : Nat} (K0 : lwK D kI kJ kL sa1 sa2 s) {i : Nat} (hi : i + 6 ≤ L) {cells slots : Nat} (hc : cells + 5 ≤ 603072) (hs : slots + 40 ≤ 7262314)
    (cont : ∀ (H : Heap) (locs : List Loc) (ls : Array Slot), lwI D kI kJ kL s x y o H locs → lv_has ls 8 [(4, .int (nI i)), (0, .ref b), (1, .ref x), (2, .ref y), (3, .ref o)] → W p l e room_1 s m #[Value.ref b] below meth c H locs (cells + 5) (slots + 40) (lw_Z below #[Value.ref b] s) (F0 m 1124 ls []))
    (H : Heap) (locs : List Loc) (ls : Array Slot) (hI : lwI D kI kJ kL s x y o H locs) (hl : lv_has ls 8 [(4, .int (nI i)), (0, .ref b), (1, .ref x), (2, .ref y), (3, .ref o)]) : W p l e room_1 s m #[Value.ref b] below meth c H locs cells slots (lw_Z below #[Value.ref b] s) (F0 m 580 ls []) := by
  obtain ⟨hx, hb, hr, hml, hown0, hts0, hX, hbl, hlocks, hgv⟩ := C0
  have hown := hownL hown0
  have hts : ∀ w ∈ wsL_law, w.before #[Value.ref b] s = true := fun w h => hts0 w (wsL_law_in w h)
  obtain ⟨hK, hN, hT, hNc⟩ := K0
  have hA : ∀ q : Nat, s.heap.size ≤ q → (fun q : Nat => s.heap.size ≤ q) q := fun _ h => h
  have hbA : ¬ (fun q : Nat => s.heap.size ≤ q) b := Nat.not_le.mpr hbl
  obtain ⟨a, q, S, N, F, B, n, am, M, G, g, rfl, rfl, h, hF, hP, hD, hS⟩ := hI
  have h0 := h.f0 0
  obtain ⟨p1, e1⟩ : ∃ v : Int32, xs (nI i + nI 1).toNatClampNeg = v := ⟨_, rfl⟩
  obtain ⟨p2, e2⟩ : ∃ v : Int32, xs (nI i + nI 2).toNatClampNeg = v := ⟨_, rfl⟩
  obtain ⟨p3, e3⟩ : ∃ v : Int32, xs (nI i + nI 3).toNatClampNeg = v := ⟨_, rfl⟩
  obtain ⟨p4, e4⟩ : ∃ v : Int32, xs (nI i + nI 4).toNatClampNeg = v := ⟨_, rfl⟩
  refine lv_aload_n hx hb dL_law_580 rfl (lv_at hl 2 rfl) ?_
  refine lv_aload_n hx hb dL_law_581 rfl (lv_at hl 1 rfl) ?_
  refine lv_iload hx hb dL_law_582 (lv_at hl 0 rfl) ?_
  refine lv_iconst (v := 1) hx hb dL_law_584 (by decide) ?_
  refine lv_iadd hx hb dL_law_585 ?_
  refine q_sld hx hb hX hbl hbA hS (sc_in 1 hi hL (by omega)) e1 dL_law_586 ?_
  refine lv_aload_n hx hb dL_law_587 rfl (lv_at hl 1 rfl) ?_
  refine lv_iload hx hb dL_law_588 (lv_at hl 0 rfl) ?_
  refine lv_iconst (v := 2) hx hb dL_law_590 (by decide) ?_
  refine lv_iadd hx hb dL_law_591 ?_
  refine q_sld hx hb hX hbl hbA hS (sc_in 2 hi hL (by omega)) e2 dL_law_592 ?_
  refine lv_aload_n hx hb dL_law_593 rfl (lv_at hl 1 rfl) ?_
  refine lv_iload hx hb dL_law_594 (lv_at hl 0 rfl) ?_
  refine lv_iconst (v := 3) hx hb dL_law_596 (by decide) ?_
  refine lv_iadd hx hb dL_law_597 ?_
  refine q_sld hx hb hX hbl hbA hS (sc_in 3 hi hL (by omega)) e3 dL_law_598 ?_
  refine lv_aload_n hx hb dL_law_599 rfl (lv_at hl 1 rfl) ?_
  refine lv_iload hx hb dL_law_600 (lv_at hl 0 rfl) ?_
  refine lv_iconst (v := 4) hx hb dL_law_602 (by decide) ?_
  refine lv_iadd hx hb dL_law_603 ?_
  refine q_sld hx hb hX hbl hbA hS (sc_in 4 hi hL (by omega)) e4 dL_law_604 ?_
  refine qw_i (w2 := (mW kI kJ am M G ++ [(o, .inl (kJ, 1, .inr (.inl g)))])) (va_runV (As := [.int p1, .int p2, .int p3, .int p4]) (rest := []) ⟨hx, hb, hml, hown, hts⟩ (c_X1_hang l D kI kJ kL a q S N F B H.size p1 p2 p3 p4 h.s110 h.z10) (cwV 4 hts gL_law_X1_hang rfl rfl rfl (by decide +kernel) ⟨Nat.le_of_ble_eq_true rfl, Nat.le_of_ble_eq_true rfl⟩) (q_wV (w2 := (mW kI kJ am M G ++ [(o, .inl (kJ, 1, .inr (.inl g)))])) hK hN hP hD (va_recv hK hP (ci := 4) (q0 := 0) rfl rfl)) rfl rfl hl.1 rfl (lv_room (Nat.le_of_ble_eq_true rfl)) dL_law_605 ⟨by show cells + 0 ≤ 603072; omega, by show slots + 0 ≤ 7262314; omega⟩) hP hD hS hA (fun r1 u1 H locs h1 hP hD hS => ?_)
  obtain ⟨rfl, rfl⟩ := h1
  have hP : va_P D vwCl (xW kI kL a q (xs_hang S p1 p2 p3 p4).2 N F B ++ (mW kI kJ am M G ++ [(o, .inl (kJ, 1, .inr (.inl g)))])) H := hP
  have hD : va_D (fun q : Nat => s.heap.size ≤ q) (xW kI kL a q (xs_hang S p1 p2 p3 p4).2 N F B ++ (mW kI kJ am M G ++ [(o, .inl (kJ, 1, .inr (.inl g)))])) := hD
  have hP := rotP hP
  have hD := rotD hD
  refine lv_aload_n hx hb dL_law_608 rfl (lv_at hl 3 rfl) ?_
  refine lv_aload_n hx hb dL_law_609 rfl (lv_at hl 1 rfl) ?_
  refine lv_iload hx hb dL_law_610 (lv_at hl 0 rfl) ?_
  refine lv_iconst (v := 1) hx hb dL_law_612 (by decide) ?_
  refine lv_iadd hx hb dL_law_613 ?_
  refine q_sld hx hb hX hbl hbA hS (sc_in 1 hi hL (by omega)) e1 dL_law_614 ?_
  refine lv_aload_n hx hb dL_law_615 rfl (lv_at hl 1 rfl) ?_
  refine lv_iload hx hb dL_law_616 (lv_at hl 0 rfl) ?_
  refine lv_iconst (v := 2) hx hb dL_law_618 (by decide) ?_
  refine lv_iadd hx hb dL_law_619 ?_
  refine q_sld hx hb hX hbl hbA hS (sc_in 2 hi hL (by omega)) e2 dL_law_620 ?_
  refine lv_aload_n hx hb dL_law_621 rfl (lv_at hl 1 rfl) ?_
  refine lv_iload hx hb dL_law_622 (lv_at hl 0 rfl) ?_
  refine lv_iconst (v := 3) hx hb dL_law_624 (by decide) ?_
  refine lv_iadd hx hb dL_law_625 ?_
  refine q_sld hx hb hX hbl hbA hS (sc_in 3 hi hL (by omega)) e3 dL_law_626 ?_
  refine lv_aload_n hx hb dL_law_627 rfl (lv_at hl 1 rfl) ?_
  refine lv_iload hx hb dL_law_628 (lv_at hl 0 rfl) ?_
  refine lv_iconst (v := 4) hx hb dL_law_630 (by decide) ?_
  refine lv_iadd hx hb dL_law_631 ?_
  refine q_sld hx hb hX hbl hbA hS (sc_in 4 hi hL (by omega)) e4 dL_law_632 ?_
  refine qw_i (w2 := ([(o, .inl (kJ, 1, .inr (.inl g)))] ++ xW kI kL a q (xs_hang S p1 p2 p3 p4).2 N F B)) (va_runV (As := [.int p1, .int p2, .int p3, .int p4]) (rest := [.int ((xs_hang S p1 p2 p3 p4).1)]) ⟨hx, hb, hml, hown, hts⟩ (c_X2_hang l D kI kJ kL am M G H.size p1 p2 p3 p4 n h.m6 h.n110 h.fm h.ssz h.k18) (cwV 4 hts gL_law_X2_hang rfl rfl rfl (by decide +kernel) ⟨Nat.le_of_ble_eq_true rfl, Nat.le_of_ble_eq_true rfl⟩) (q_wV (w2 := ([(o, .inl (kJ, 1, .inr (.inl g)))] ++ xW kI kL a q (xs_hang S p1 p2 p3 p4).2 N F B)) hK hN hP hD (va_recv hK hP (ci := 5) (q0 := 0) rfl rfl)) rfl rfl hl.1 rfl (lv_room (Nat.le_of_ble_eq_true rfl)) dL_law_633 ⟨by show cells + 0 ≤ 603072; omega, by show slots + 0 ≤ 7262314; omega⟩) hP hD hS hA (fun r2 u2 H locs h2 hP hD hS => ?_)
  obtain ⟨rfl, rfl⟩ := h2
  obtain ⟨hE, hR⟩ := R_hang h0 p1 p2 p3 p4
  have hP : va_P D vwCl (mW kI kJ am (ms_hang (sU M 16 0 0) p1 p2 p3 p4).2 G ++ ([(o, .inl (kJ, 1, .inr (.inl g)))] ++ xW kI kL a q (xs_hang S p1 p2 p3 p4).2 N F B)) H := hP
  have hD : va_D (fun q : Nat => s.heap.size ≤ q) (mW kI kJ am (ms_hang (sU M 16 0 0) p1 p2 p3 p4).2 G ++ ([(o, .inl (kJ, 1, .inr (.inl g)))] ++ xW kI kL a q (xs_hang S p1 p2 p3 p4).2 N F B)) := hD
  have hP := rotP (rotP hP)
  have hD := rotD (rotD hD)
  refine lv_icmp_eq (tgt := 1124) hx hb dL_law_636 (by decide) (fun c9 => ?_) (fun c9 => absurd hE c9)
  exact W.widen (k := cells + 5) (n := slots + 40) (by omega) (by omega) (cont _ _ _ ⟨a, q, _, N, F, B, n, am, _, _, g, rfl, rfl, hR, hF, hP, hD, hS⟩ hl)
set_option maxHeartbeats 4000000 in
set_option maxRecDepth 100000 in
theorem lwc_11 {p : Program} {e : Env} {s : State} {m : MethodId} {below : List Frame} {meth : Method} {c : Code} (l : Launch) (hlt : l.stackTraces = false) {b L : Nat} {xs : Nat → Int32} (hL : L ≤ 3072) (C0 : lw_At p s m meth c b L xs) {D : va_G} {kI kJ kL : ClassId} {sa1 sa2 x y o : Nat} (K0 : lwK D kI kJ kL sa1 sa2 s) {i : Nat} (hi : i + 6 ≤ L) {cells slots : Nat} (hc : cells + 5 ≤ 603072) (hs : slots + 40 ≤ 7262314)
    (cont : ∀ (H : Heap) (locs : List Loc) (ls : Array Slot), lwI D kI kJ kL s x y o H locs → lv_has ls 8 [(4, .int (nI i)), (0, .ref b), (1, .ref x), (2, .ref y), (3, .ref o)] → W p l e room_1 s m #[Value.ref b] below meth c H locs (cells + 5) (slots + 40) (lw_Z below #[Value.ref b] s) (F0 m 1124 ls []))
    (H : Heap) (locs : List Loc) (ls : Array Slot) (hI : lwI D kI kJ kL s x y o H locs) (hl : lv_has ls 8 [(4, .int (nI i)), (0, .ref b), (1, .ref x), (2, .ref y), (3, .ref o)]) : W p l e room_1 s m #[Value.ref b] below meth c H locs cells slots (lw_Z below #[Value.ref b] s) (F0 m 641 ls []) := by
  obtain ⟨hx, hb, hr, hml, hown0, hts0, hX, hbl, hlocks, hgv⟩ := C0
  have hown := hownL hown0
  have hts : ∀ w ∈ wsL_law, w.before #[Value.ref b] s = true := fun w h => hts0 w (wsL_law_in w h)
  obtain ⟨hK, hN, hT, hNc⟩ := K0
  have hA : ∀ q : Nat, s.heap.size ≤ q → (fun q : Nat => s.heap.size ≤ q) q := fun _ h => h
  have hbA : ¬ (fun q : Nat => s.heap.size ≤ q) b := Nat.not_le.mpr hbl
  obtain ⟨a, q, S, N, F, B, n, am, M, G, g, rfl, rfl, h, hF, hP, hD, hS⟩ := hI
  have h0 := h.f0 0
  obtain ⟨p1, e1⟩ : ∃ v : Int32, xs (nI i + nI 1).toNatClampNeg = v := ⟨_, rfl⟩
  obtain ⟨p2, e2⟩ : ∃ v : Int32, xs (nI i + nI 2).toNatClampNeg = v := ⟨_, rfl⟩
  obtain ⟨p3, e3⟩ : ∃ v : Int32, xs (nI i + nI 3).toNatClampNeg = v := ⟨_, rfl⟩
  refine lv_aload_n hx hb dL_law_641 rfl (lv_at hl 2 rfl) ?_
  refine lv_aload_n hx hb dL_law_642 rfl (lv_at hl 1 rfl) ?_
  refine lv_iload hx hb dL_law_643 (lv_at hl 0 rfl) ?_
  refine lv_iconst (v := 1) hx hb dL_law_645 (by decide) ?_
  refine lv_iadd hx hb dL_law_646 ?_
  refine q_sld hx hb hX hbl hbA hS (sc_in 1 hi hL (by omega)) e1 dL_law_647 ?_
  refine lv_aload_n hx hb dL_law_648 rfl (lv_at hl 1 rfl) ?_
  refine lv_iload hx hb dL_law_649 (lv_at hl 0 rfl) ?_
  refine lv_iconst (v := 2) hx hb dL_law_651 (by decide) ?_
  refine lv_iadd hx hb dL_law_652 ?_
  refine q_sld hx hb hX hbl hbA hS (sc_in 2 hi hL (by omega)) e2 dL_law_653 ?_
  refine lv_aload_n hx hb dL_law_654 rfl (lv_at hl 1 rfl) ?_
  refine lv_iload hx hb dL_law_655 (lv_at hl 0 rfl) ?_
  refine lv_iconst (v := 3) hx hb dL_law_657 (by decide) ?_
  refine lv_iadd hx hb dL_law_658 ?_
  refine q_sld hx hb hX hbl hbA hS (sc_in 3 hi hL (by omega)) e3 dL_law_659 ?_
  refine qw_i (w2 := (mW kI kJ am M G ++ [(o, .inl (kJ, 1, .inr (.inl g)))])) (va_runV (As := [.int p1, .int p2, .int p3]) (rest := []) ⟨hx, hb, hml, hown, hts⟩ (c_X1_at l D kI kJ kL a q S N F B H.size p1 p2 p3 h.s110 h.z10) (cwV 3 hts gL_law_X1_at rfl rfl rfl (by decide +kernel) ⟨Nat.le_of_ble_eq_true rfl, Nat.le_of_ble_eq_true rfl⟩) (q_wV (w2 := (mW kI kJ am M G ++ [(o, .inl (kJ, 1, .inr (.inl g)))])) hK hN hP hD (va_recv hK hP (ci := 4) (q0 := 0) rfl rfl)) rfl rfl hl.1 rfl (lv_room (Nat.le_of_ble_eq_true rfl)) dL_law_660 ⟨by show cells + 0 ≤ 603072; omega, by show slots + 0 ≤ 7262314; omega⟩) hP hD hS hA (fun r1 u1 H locs h1 hP hD hS => ?_)
  obtain ⟨rfl, rfl⟩ := h1
  have hP : va_P D vwCl (xW kI kL a q (xs_at S p1 p2 p3).2 N F B ++ (mW kI kJ am M G ++ [(o, .inl (kJ, 1, .inr (.inl g)))])) H := hP
  have hD : va_D (fun q : Nat => s.heap.size ≤ q) (xW kI kL a q (xs_at S p1 p2 p3).2 N F B ++ (mW kI kJ am M G ++ [(o, .inl (kJ, 1, .inr (.inl g)))])) := hD
  have hP := rotP hP
  have hD := rotD hD
  refine lv_aload_n hx hb dL_law_663 rfl (lv_at hl 3 rfl) ?_
  refine lv_aload_n hx hb dL_law_664 rfl (lv_at hl 1 rfl) ?_
  refine lv_iload hx hb dL_law_665 (lv_at hl 0 rfl) ?_
  refine lv_iconst (v := 1) hx hb dL_law_667 (by decide) ?_
  refine lv_iadd hx hb dL_law_668 ?_
  refine q_sld hx hb hX hbl hbA hS (sc_in 1 hi hL (by omega)) e1 dL_law_669 ?_
  refine lv_aload_n hx hb dL_law_670 rfl (lv_at hl 1 rfl) ?_
  refine lv_iload hx hb dL_law_671 (lv_at hl 0 rfl) ?_
  refine lv_iconst (v := 2) hx hb dL_law_673 (by decide) ?_
  refine lv_iadd hx hb dL_law_674 ?_
  refine q_sld hx hb hX hbl hbA hS (sc_in 2 hi hL (by omega)) e2 dL_law_675 ?_
  refine lv_aload_n hx hb dL_law_676 rfl (lv_at hl 1 rfl) ?_
  refine lv_iload hx hb dL_law_677 (lv_at hl 0 rfl) ?_
  refine lv_iconst (v := 3) hx hb dL_law_679 (by decide) ?_
  refine lv_iadd hx hb dL_law_680 ?_
  refine q_sld hx hb hX hbl hbA hS (sc_in 3 hi hL (by omega)) e3 dL_law_681 ?_
  refine qw_i (w2 := ([(o, .inl (kJ, 1, .inr (.inl g)))] ++ xW kI kL a q (xs_at S p1 p2 p3).2 N F B)) (va_runV (As := [.int p1, .int p2, .int p3]) (rest := [.int ((xs_at S p1 p2 p3).1)]) ⟨hx, hb, hml, hown, hts⟩ (c_X2_at l D kI kJ kL am M G H.size p1 p2 p3 n h.m6 h.n110 h.fm h.ssz) (cwV 3 hts gL_law_X2_at rfl rfl rfl (by decide +kernel) ⟨Nat.le_of_ble_eq_true rfl, Nat.le_of_ble_eq_true rfl⟩) (q_wV (w2 := ([(o, .inl (kJ, 1, .inr (.inl g)))] ++ xW kI kL a q (xs_at S p1 p2 p3).2 N F B)) hK hN hP hD (va_recv hK hP (ci := 5) (q0 := 0) rfl rfl)) rfl rfl hl.1 rfl (lv_room (Nat.le_of_ble_eq_true rfl)) dL_law_682 ⟨by show cells + 0 ≤ 603072; omega, by show slots + 0 ≤ 7262314; omega⟩) hP hD hS hA (fun r2 u2 H locs h2 hP hD hS => ?_)
  obtain ⟨rfl, rfl⟩ := h2
  obtain ⟨hE, hR⟩ := R_at h0 p1 p2 p3
  have hP : va_P D vwCl (mW kI kJ am (ms_at (sU M 16 0 0) p1 p2 p3).2 G ++ ([(o, .inl (kJ, 1, .inr (.inl g)))] ++ xW kI kL a q (xs_at S p1 p2 p3).2 N F B)) H := hP
  have hD : va_D (fun q : Nat => s.heap.size ≤ q) (mW kI kJ am (ms_at (sU M 16 0 0) p1 p2 p3).2 G ++ ([(o, .inl (kJ, 1, .inr (.inl g)))] ++ xW kI kL a q (xs_at S p1 p2 p3).2 N F B)) := hD
  have hP := rotP (rotP hP)
  have hD := rotD (rotD hD)
  refine lv_icmp_eq (tgt := 1124) hx hb dL_law_685 (by decide) (fun c9 => ?_) (fun c9 => absurd hE c9)
  exact W.widen (k := cells + 5) (n := slots + 40) (by omega) (by omega) (cont _ _ _ ⟨a, q, _, N, F, B, n, am, _, _, g, rfl, rfl, hR, hF, hP, hD, hS⟩ hl)
set_option maxHeartbeats 4000000 in
set_option maxRecDepth 100000 in
theorem lwc_12 {p : Program} {e : Env} {s : State} {m : MethodId} {below : List Frame} {meth : Method} {c : Code} (l : Launch) (hlt : l.stackTraces = false) {b L : Nat} {xs : Nat → Int32} (hL : L ≤ 3072) (C0 : lw_At p s m meth c b L xs) {D : va_G} {kI kJ kL : ClassId} {sa1 sa2 x y o : Nat} (K0 : lwK D kI kJ kL sa1 sa2 s) {i : Nat} (hi : i + 6 ≤ L) {cells slots : Nat} (hc : cells + 5 ≤ 603072) (hs : slots + 40 ≤ 7262314)
    (cont : ∀ (H : Heap) (locs : List Loc) (ls : Array Slot), lwI D kI kJ kL s x y o H locs → lv_has ls 8 [(4, .int (nI i)), (0, .ref b), (1, .ref x), (2, .ref y), (3, .ref o)] → W p l e room_1 s m #[Value.ref b] below meth c H locs (cells + 5) (slots + 40) (lw_Z below #[Value.ref b] s) (F0 m 1124 ls []))
    (H : Heap) (locs : List Loc) (ls : Array Slot) (hI : lwI D kI kJ kL s x y o H locs) (hl : lv_has ls 8 [(4, .int (nI i)), (0, .ref b), (1, .ref x), (2, .ref y), (3, .ref o)]) : W p l e room_1 s m #[Value.ref b] below meth c H locs cells slots (lw_Z below #[Value.ref b] s) (F0 m 690 ls []) := by
  obtain ⟨hx, hb, hr, hml, hown0, hts0, hX, hbl, hlocks, hgv⟩ := C0
  have hown := hownL hown0
  have hts : ∀ w ∈ wsL_law, w.before #[Value.ref b] s = true := fun w h => hts0 w (wsL_law_in w h)
  obtain ⟨hK, hN, hT, hNc⟩ := K0
  have hA : ∀ q : Nat, s.heap.size ≤ q → (fun q : Nat => s.heap.size ≤ q) q := fun _ h => h
  have hbA : ¬ (fun q : Nat => s.heap.size ≤ q) b := Nat.not_le.mpr hbl
  obtain ⟨a, q, S, N, F, B, n, am, M, G, g, rfl, rfl, h, hF, hP, hD, hS⟩ := hI
  have h0 := h.f0 0
  obtain ⟨p1, e1⟩ : ∃ v : Int32, xs (nI i + nI 1).toNatClampNeg = v := ⟨_, rfl⟩
  obtain ⟨p2, e2⟩ : ∃ v : Int32, xs (nI i + nI 2).toNatClampNeg = v := ⟨_, rfl⟩
  obtain ⟨p3, e3⟩ : ∃ v : Int32, xs (nI i + nI 3).toNatClampNeg = v := ⟨_, rfl⟩
  obtain ⟨p4, e4⟩ : ∃ v : Int32, xs (nI i + nI 4).toNatClampNeg = v := ⟨_, rfl⟩
  refine lv_aload_n hx hb dL_law_690 rfl (lv_at hl 2 rfl) ?_
  refine lv_aload_n hx hb dL_law_691 rfl (lv_at hl 1 rfl) ?_
  refine lv_iload hx hb dL_law_692 (lv_at hl 0 rfl) ?_
  refine lv_iconst (v := 1) hx hb dL_law_694 (by decide) ?_
  refine lv_iadd hx hb dL_law_695 ?_
  refine q_sld hx hb hX hbl hbA hS (sc_in 1 hi hL (by omega)) e1 dL_law_696 ?_
  refine lv_aload_n hx hb dL_law_697 rfl (lv_at hl 1 rfl) ?_
  refine lv_iload hx hb dL_law_698 (lv_at hl 0 rfl) ?_
  refine lv_iconst (v := 2) hx hb dL_law_700 (by decide) ?_
  refine lv_iadd hx hb dL_law_701 ?_
  refine q_sld hx hb hX hbl hbA hS (sc_in 2 hi hL (by omega)) e2 dL_law_702 ?_
  refine lv_aload_n hx hb dL_law_703 rfl (lv_at hl 1 rfl) ?_
  refine lv_iload hx hb dL_law_704 (lv_at hl 0 rfl) ?_
  refine lv_iconst (v := 3) hx hb dL_law_706 (by decide) ?_
  refine lv_iadd hx hb dL_law_707 ?_
  refine q_sld hx hb hX hbl hbA hS (sc_in 3 hi hL (by omega)) e3 dL_law_708 ?_
  refine lv_aload_n hx hb dL_law_709 rfl (lv_at hl 1 rfl) ?_
  refine lv_iload hx hb dL_law_710 (lv_at hl 0 rfl) ?_
  refine lv_iconst (v := 4) hx hb dL_law_712 (by decide) ?_
  refine lv_iadd hx hb dL_law_713 ?_
  refine q_sld hx hb hX hbl hbA hS (sc_in 4 hi hL (by omega)) e4 dL_law_714 ?_
  refine qw_i (w2 := (mW kI kJ am M G ++ [(o, .inl (kJ, 1, .inr (.inl g)))])) (va_runV (As := [.int p1, .int p2, .int p3, .int p4]) (rest := []) ⟨hx, hb, hml, hown, hts⟩ (c_X1_deep l D kI kJ kL a q S N F B H.size p1 p2 p3 p4 h.s110 h.z10) (cwV 4 hts gL_law_X1_deep rfl rfl rfl (by decide +kernel) ⟨Nat.le_of_ble_eq_true rfl, Nat.le_of_ble_eq_true rfl⟩) (q_wV (w2 := (mW kI kJ am M G ++ [(o, .inl (kJ, 1, .inr (.inl g)))])) hK hN hP hD (va_recv hK hP (ci := 4) (q0 := 0) rfl rfl)) rfl rfl hl.1 rfl (lv_room (Nat.le_of_ble_eq_true rfl)) dL_law_715 ⟨by show cells + 0 ≤ 603072; omega, by show slots + 0 ≤ 7262314; omega⟩) hP hD hS hA (fun r1 u1 H locs h1 hP hD hS => ?_)
  obtain ⟨rfl, rfl⟩ := h1
  have hP : va_P D vwCl (xW kI kL a q (xs_deep S p1 p2 p3 p4).2 N F B ++ (mW kI kJ am M G ++ [(o, .inl (kJ, 1, .inr (.inl g)))])) H := hP
  have hD : va_D (fun q : Nat => s.heap.size ≤ q) (xW kI kL a q (xs_deep S p1 p2 p3 p4).2 N F B ++ (mW kI kJ am M G ++ [(o, .inl (kJ, 1, .inr (.inl g)))])) := hD
  have hP := rotP hP
  have hD := rotD hD
  refine lv_aload_n hx hb dL_law_718 rfl (lv_at hl 3 rfl) ?_
  refine lv_aload_n hx hb dL_law_719 rfl (lv_at hl 1 rfl) ?_
  refine lv_iload hx hb dL_law_720 (lv_at hl 0 rfl) ?_
  refine lv_iconst (v := 1) hx hb dL_law_722 (by decide) ?_
  refine lv_iadd hx hb dL_law_723 ?_
  refine q_sld hx hb hX hbl hbA hS (sc_in 1 hi hL (by omega)) e1 dL_law_724 ?_
  refine lv_aload_n hx hb dL_law_725 rfl (lv_at hl 1 rfl) ?_
  refine lv_iload hx hb dL_law_726 (lv_at hl 0 rfl) ?_
  refine lv_iconst (v := 2) hx hb dL_law_728 (by decide) ?_
  refine lv_iadd hx hb dL_law_729 ?_
  refine q_sld hx hb hX hbl hbA hS (sc_in 2 hi hL (by omega)) e2 dL_law_730 ?_
  refine lv_aload_n hx hb dL_law_731 rfl (lv_at hl 1 rfl) ?_
  refine lv_iload hx hb dL_law_732 (lv_at hl 0 rfl) ?_
  refine lv_iconst (v := 3) hx hb dL_law_734 (by decide) ?_
  refine lv_iadd hx hb dL_law_735 ?_
  refine q_sld hx hb hX hbl hbA hS (sc_in 3 hi hL (by omega)) e3 dL_law_736 ?_
  refine lv_aload_n hx hb dL_law_737 rfl (lv_at hl 1 rfl) ?_
  refine lv_iload hx hb dL_law_738 (lv_at hl 0 rfl) ?_
  refine lv_iconst (v := 4) hx hb dL_law_740 (by decide) ?_
  refine lv_iadd hx hb dL_law_741 ?_
  refine q_sld hx hb hX hbl hbA hS (sc_in 4 hi hL (by omega)) e4 dL_law_742 ?_
  refine qw_i (w2 := ([(o, .inl (kJ, 1, .inr (.inl g)))] ++ xW kI kL a q (xs_deep S p1 p2 p3 p4).2 N F B)) (va_runV (As := [.int p1, .int p2, .int p3, .int p4]) (rest := [.int ((xs_deep S p1 p2 p3 p4).1)]) ⟨hx, hb, hml, hown, hts⟩ (c_X2_deep l D kI kJ kL am M G H.size p1 p2 p3 p4 n h.m6 h.n110 h.fm h.ssz h.pv) (cwV 4 hts gL_law_X2_deep rfl rfl rfl (by decide +kernel) ⟨Nat.le_of_ble_eq_true rfl, Nat.le_of_ble_eq_true rfl⟩) (q_wV (w2 := ([(o, .inl (kJ, 1, .inr (.inl g)))] ++ xW kI kL a q (xs_deep S p1 p2 p3 p4).2 N F B)) hK hN hP hD (va_recv hK hP (ci := 5) (q0 := 0) rfl rfl)) rfl rfl hl.1 rfl (lv_room (Nat.le_of_ble_eq_true rfl)) dL_law_743 ⟨by show cells + 0 ≤ 603072; omega, by show slots + 0 ≤ 7262314; omega⟩) hP hD hS hA (fun r2 u2 H locs h2 hP hD hS => ?_)
  obtain ⟨rfl, rfl⟩ := h2
  obtain ⟨hE, hR⟩ := R_deep h0 p1 p2 p3 p4
  have hP : va_P D vwCl (mW kI kJ am (ms_deep (sU M 16 0 0) G p1 p2 p3 p4).2 G ++ ([(o, .inl (kJ, 1, .inr (.inl g)))] ++ xW kI kL a q (xs_deep S p1 p2 p3 p4).2 N F B)) H := hP
  have hD : va_D (fun q : Nat => s.heap.size ≤ q) (mW kI kJ am (ms_deep (sU M 16 0 0) G p1 p2 p3 p4).2 G ++ ([(o, .inl (kJ, 1, .inr (.inl g)))] ++ xW kI kL a q (xs_deep S p1 p2 p3 p4).2 N F B)) := hD
  have hP := rotP (rotP hP)
  have hD := rotD (rotD hD)
  refine lv_icmp_eq (tgt := 1124) hx hb dL_law_746 (by decide) (fun c9 => ?_) (fun c9 => absurd hE c9)
  exact W.widen (k := cells + 5) (n := slots + 40) (by omega) (by omega) (cont _ _ _ ⟨a, q, _, N, F, B, n, am, _, _, g, rfl, rfl, hR, hF, hP, hD, hS⟩ hl)
