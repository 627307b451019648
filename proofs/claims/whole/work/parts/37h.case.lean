set_option maxHeartbeats 4000000 in
set_option maxRecDepth 100000 in
theorem lwc_23 {p : Program} {e : Env} {s : State} {m : MethodId} {below : List Frame} {meth : Method} {c : Code} (l : Launch) (hlt : l.stackTraces = false) {b L : Nat} {xs : Nat → Int32} (hL : L ≤ 3072) (C0 : lw_At p s m meth c b L xs) {D : va_G} {kI kJ kL : ClassId} {sa1 sa2 x y o : Nat} (K0 : lwK D kI kJ kL sa1 sa2 s) {i : Nat} (hi : i + 6 ≤ L) {cells slots : Nat} (hc : cells + 5 ≤ 603072) (hs : slots + 40 ≤ 7262314)
    (cont : ∀ (H : Heap) (locs : List Loc) (ls : Array Slot), lwI D kI kJ kL s x y o H locs → lv_has ls 8 [(4, .int (nI i)), (0, .ref b), (1, .ref x), (2, .ref y), (3, .ref o)] → W p l e room_1 s m #[Value.ref b] below meth c H locs (cells + 5) (slots + 40) (lw_Z below #[Value.ref b] s) (F0 m 1124 ls []))
    (H : Heap) (locs : List Loc) (ls : Array Slot) (hI : lwI D kI kJ kL s x y o H locs) (hl : lv_has ls 8 [(4, .int (nI i)), (0, .ref b), (1, .ref x), (2, .ref y), (3, .ref o)]) : W p l e room_1 s m #[Value.ref b] below meth c H locs cells slots (lw_Z below #[Value.ref b] s) (F0 m 1049 ls []) := by
  obtain ⟨hx, hb, hr, hml, hown0, hts0, hX, hbl, hlocks, hgv⟩ := C0
  have hown := hownL hown0
  have hts : ∀ w ∈ wsL_law, w.before #[Value.ref b] s = true := fun w h => hts0 w (wsL_law_in w h)
  obtain ⟨hK, hN, hT, hNc⟩ := K0
  have hA : ∀ q : Nat, s.heap.size ≤ q → (fun q : Nat => s.heap.size ≤ q) q := fun _ h => h
  have hbA : ¬ (fun q : Nat => s.heap.size ≤ q) b := Nat.not_le.mpr hbl
  obtain ⟨a, q, S, N, F, B, n, am, M, G, g, rfl, rfl, h, hF, hP, hD, hS⟩ := hI
  have h0 := h.f0 0
  obtain ⟨p1, e1⟩ : ∃ v : Int32, xs (nI i + nI 1).toNatClampNeg = v := ⟨_, rfl⟩
  obtain ⟨p2, e2⟩ : ∃ v : Int32, xs (nI i + nI 2).toNatClampNeg = v := ⟨_, rfl⟩
  refine lv_aload_n hx hb dL_law_1049 rfl (lv_at hl 2 rfl) ?_
  refine lv_aload_n hx hb dL_law_1050 rfl (lv_at hl 1 rfl) ?_
  refine lv_iload hx hb dL_law_1051 (lv_at hl 0 rfl) ?_
  refine lv_iconst (v := 1) hx hb dL_law_1053 (by decide) ?_
  refine lv_iadd hx hb dL_law_1054 ?_
  refine q_sld hx hb hX hbl hbA hS (sc_in 1 hi hL (by omega)) e1 dL_law_1055 ?_
  refine lv_aload_n hx hb dL_law_1056 rfl (lv_at hl 1 rfl) ?_
  refine lv_iload hx hb dL_law_1057 (lv_at hl 0 rfl) ?_
  refine lv_iconst (v := 2) hx hb dL_law_1059 (by decide) ?_
  refine lv_iadd hx hb dL_law_1060 ?_
  refine q_sld hx hb hX hbl hbA hS (sc_in 2 hi hL (by omega)) e2 dL_law_1061 ?_
  refine vp_callSi (W.runV (As := [.int p1, .int p2]) (rest := []) ⟨hx, hb, hml, hown, hts⟩ (c_X1_van l D kI kJ kL a q S N F B p1 p2 h.s7 h.b8 hF) (cwV 2 hts gL_law_X1_van rfl rfl rfl (by decide +kernel) ⟨Nat.le_of_ble_eq_true rfl, Nat.le_of_ble_eq_true rfl⟩) (q_rV (w2 := (mW kI kJ am M G ++ [(o, .inl (kJ, 1, .inr (.inl g)))])) hK hN hP (va_recv hK hP (ci := 4) (q0 := 0) rfl rfl)) rfl rfl hl.1 rfl (lv_room (Nat.le_of_ble_eq_true rfl)) dL_law_1062 ⟨by show cells + 0 ≤ 603072; omega, by show slots + 0 ≤ 7262314; omega⟩) (fun r1 h1 => ?_)
  subst h1
  have hP : va_P D vwCl (xW kI kL a q S N F B ++ (mW kI kJ am M G ++ [(o, .inl (kJ, 1, .inr (.inl g)))])) H := hP
  have hD : va_D (fun q : Nat => s.heap.size ≤ q) (xW kI kL a q S N F B ++ (mW kI kJ am M G ++ [(o, .inl (kJ, 1, .inr (.inl g)))])) := hD
  have hP := rotP hP
  have hD := rotD hD
  refine lv_aload_n hx hb dL_law_1065 rfl (lv_at hl 3 rfl) ?_
  refine lv_aload_n hx hb dL_law_1066 rfl (lv_at hl 1 rfl) ?_
  refine lv_iload hx hb dL_law_1067 (lv_at hl 0 rfl) ?_
  refine lv_iconst (v := 1) hx hb dL_law_1069 (by decide) ?_
  refine lv_iadd hx hb dL_law_1070 ?_
  refine q_sld hx hb hX hbl hbA hS (sc_in 1 hi hL (by omega)) e1 dL_law_1071 ?_
  refine lv_aload_n hx hb dL_law_1072 rfl (lv_at hl 1 rfl) ?_
  refine lv_iload hx hb dL_law_1073 (lv_at hl 0 rfl) ?_
  refine lv_iconst (v := 2) hx hb dL_law_1075 (by decide) ?_
  refine lv_iadd hx hb dL_law_1076 ?_
  refine q_sld hx hb hX hbl hbA hS (sc_in 2 hi hL (by omega)) e2 dL_law_1077 ?_
  refine qw_i (w2 := ([(o, .inl (kJ, 1, .inr (.inl g)))] ++ xW kI kL a q S N F B)) (va_runV (As := [.int p1, .int p2]) (rest := [.int (xs_van S N p1 p2)]) ⟨hx, hb, hml, hown, hts⟩ (c_X2_van l D kI kJ kL am M G H.size p1 p2 B h.m7 h.b8 h.w9) (cwV 2 hts gL_law_X2_van rfl rfl rfl (by decide +kernel) ⟨Nat.le_of_ble_eq_true rfl, Nat.le_of_ble_eq_true rfl⟩) (q_wV (w2 := ([(o, .inl (kJ, 1, .inr (.inl g)))] ++ xW kI kL a q S N F B)) hK hN hP hD (va_recv hK hP (ci := 5) (q0 := 0) rfl rfl)) rfl rfl hl.1 rfl (lv_room (Nat.le_of_ble_eq_true rfl)) dL_law_1078 ⟨by show cells + 0 ≤ 603072; omega, by show slots + 0 ≤ 7262314; omega⟩) hP hD hS hA (fun r2 u2 H locs h2 hP hD hS => ?_)
  obtain ⟨rfl, rfl⟩ := h2
  have hR := h0
  have hE := R_van h0 p1 p2
  have hP : va_P D vwCl (mW kI kJ am (sU M 16 0 0) G ++ ([(o, .inl (kJ, 1, .inr (.inl g)))] ++ xW kI kL a q S N F B)) H := hP
  have hD : va_D (fun q : Nat => s.heap.size ≤ q) (mW kI kJ am (sU M 16 0 0) G ++ ([(o, .inl (kJ, 1, .inr (.inl g)))] ++ xW kI kL a q S N F B)) := hD
  have hP := rotP (rotP hP)
  have hD := rotD (rotD hD)
  refine lv_icmp_eq (tgt := 1124) hx hb dL_law_1081 (by decide) (fun c9 => ?_) (fun c9 => absurd hE c9)
  exact W.widen (k := cells + 5) (n := slots + 40) (by omega) (by omega) (cont _ _ _ ⟨a, q, S, N, F, B, n, am, _, _, g, rfl, rfl, hR, hF, hP, hD, hS⟩ hl)
set_option maxHeartbeats 4000000 in
set_option maxRecDepth 100000 in
theorem lwc_24 {p : Program} {e : Env} {s : State} {m : MethodId} {below : List Frame} {meth : Method} {c : Code} (l : Launch) (hlt : l.stackTraces = false) {b L : Nat} {xs : Nat → Int32} (hL : L ≤ 3072) (C0 : lw_At p s m meth c b L xs) {D : va_G} {kI kJ kL : ClassId} {sa1 sa2 x y o : Nat} (K0 : lwK D kI kJ kL sa1 sa2 s) {i : Nat} (hi : i + 6 ≤ L) {cells slots : Nat} (hc : cells + 5 ≤ 603072) (hs : slots + 40 ≤ 7262314)
    (cont : ∀ (H : Heap) (locs : List Loc) (ls : Array Slot), lwI D kI kJ kL s x y o H locs → lv_has ls 8 [(4, .int (nI i)), (0, .ref b), (1, .ref x), (2, .ref y), (3, .ref o)] → W p l e room_1 s m #[Value.ref b] below meth c H locs (cells + 5) (slots + 40) (lw_Z below #[Value.ref b] s) (F0 m 1124 ls []))
    (H : Heap) (locs : List Loc) (ls : Array Slot) (hI : lwI D kI kJ kL s x y o H locs) (hl : lv_has ls 8 [(4, .int (nI i)), (0, .ref b), (1, .ref x), (2, .ref y), (3, .ref o)]) : W p l e room_1 s m #[Value.ref b] below meth c H locs cells slots (lw_Z below #[Value.ref b] s) (F0 m 1086 ls []) := by
  obtain ⟨hx, hb, hr, hml, hown0, hts0, hX, hbl, hlocks, hgv⟩ := C0
  have hown := hownL hown0
  have hts : ∀ w ∈ wsL_law, w.before #[Value.ref b] s = true := fun w h => hts0 w (wsL_law_in w h)
  obtain ⟨hK, hN, hT, hNc⟩ := K0
  have hA : ∀ q : Nat, s.heap.size ≤ q → (fun q : Nat => s.heap.size ≤ q) q := fun _ h => h
  have hbA : ¬ (fun q : Nat => s.heap.size ≤ q) b := Nat.not_le.mpr hbl
  obtain ⟨a, q, S, N, F, B, n, am, M, G, g, rfl, rfl, h, hF, hP, hD, hS⟩ := hI
  have h0 := h.f0 0
  obtain ⟨p1, e1⟩ : ∃ v : Int32, xs (nI i + nI 1).toNatClampNeg = v := ⟨_, rfl⟩
  refine lv_aload_n hx hb dL_law_1086 rfl (lv_at hl 2 rfl) ?_
  refine lv_aload_n hx hb dL_law_1087 rfl (lv_at hl 1 rfl) ?_
  refine lv_iload hx hb dL_law_1088 (lv_at hl 0 rfl) ?_
  refine lv_iconst (v := 1) hx hb dL_law_1090 (by decide) ?_
  refine lv_iadd hx hb dL_law_1091 ?_
  refine q_sld hx hb hX hbl hbA hS (sc_in 1 hi hL (by omega)) e1 dL_law_1092 ?_
  refine vp_callSi (W.runV (As := [.int p1]) (rest := []) ⟨hx, hb, hml, hown, hts⟩ (c_X1_count l D kI kJ kL a q S N F B p1 n h.s6 h.n110) (cwV 1 hts gL_law_X1_count rfl rfl rfl (by decide +kernel) ⟨Nat.le_of_ble_eq_true rfl, Nat.le_of_ble_eq_true rfl⟩) (q_rV (w2 := (mW kI kJ am M G ++ [(o, .inl (kJ, 1, .inr (.inl g)))])) hK hN hP (va_recv hK hP (ci := 4) (q0 := 0) rfl rfl)) rfl rfl hl.1 rfl (lv_room (Nat.le_of_ble_eq_true rfl)) dL_law_1093 ⟨by show cells + 0 ≤ 603072; omega, by show slots + 0 ≤ 7262314; omega⟩) (fun r1 h1 => ?_)
  subst h1
  have hP : va_P D vwCl (xW kI kL a q S N F B ++ (mW kI kJ am M G ++ [(o, .inl (kJ, 1, .inr (.inl g)))])) H := hP
  have hD : va_D (fun q : Nat => s.heap.size ≤ q) (xW kI kL a q S N F B ++ (mW kI kJ am M G ++ [(o, .inl (kJ, 1, .inr (.inl g)))])) := hD
  have hP := rotP hP
  have hD := rotD hD
  refine lv_aload_n hx hb dL_law_1096 rfl (lv_at hl 3 rfl) ?_
  refine lv_aload_n hx hb dL_law_1097 rfl (lv_at hl 1 rfl) ?_
  refine lv_iload hx hb dL_law_1098 (lv_at hl 0 rfl) ?_
  refine lv_iconst (v := 1) hx hb dL_law_1100 (by decide) ?_
  refine lv_iadd hx hb dL_law_1101 ?_
  refine q_sld hx hb hX hbl hbA hS (sc_in 1 hi hL (by omega)) e1 dL_law_1102 ?_
  refine qw_i (w2 := ([(o, .inl (kJ, 1, .inr (.inl g)))] ++ xW kI kL a q S N F B)) (va_runV (As := [.int p1]) (rest := [.int (xs_count S n p1)]) ⟨hx, hb, hml, hown, hts⟩ (c_X2_count l D kI kJ kL am M G H.size p1 n h.m6 h.n110) (cwV 1 hts gL_law_X2_count rfl rfl rfl (by decide +kernel) ⟨Nat.le_of_ble_eq_true rfl, Nat.le_of_ble_eq_true rfl⟩) (q_wV (w2 := ([(o, .inl (kJ, 1, .inr (.inl g)))] ++ xW kI kL a q S N F B)) hK hN hP hD (va_recv hK hP (ci := 5) (q0 := 0) rfl rfl)) rfl rfl hl.1 rfl (lv_room (Nat.le_of_ble_eq_true rfl)) dL_law_1103 ⟨by show cells + 0 ≤ 603072; omega, by show slots + 0 ≤ 7262314; omega⟩) hP hD hS hA (fun r2 u2 H locs h2 hP hD hS => ?_)
  obtain ⟨rfl, rfl⟩ := h2
  have hR := h0
  have hE := R_count h0 p1
  have hP : va_P D vwCl (mW kI kJ am (sU M 16 0 0) G ++ ([(o, .inl (kJ, 1, .inr (.inl g)))] ++ xW kI kL a q S N F B)) H := hP
  have hD : va_D (fun q : Nat => s.heap.size ≤ q) (mW kI kJ am (sU M 16 0 0) G ++ ([(o, .inl (kJ, 1, .inr (.inl g)))] ++ xW kI kL a q S N F B)) := hD
  have hP := rotP (rotP hP)
  have hD := rotD (rotD hD)
  refine lv_icmp_eq (tgt := 1124) hx hb dL_law_1106 (by decide) (fun c9 => ?_) (fun c9 => absurd hE c9)
  exact W.widen (k := cells + 5) (n := slots + 40) (by omega) (by omega) (cont _ _ _ ⟨a, q, S, N, F, B, n, am, _, _, g, rfl, rfl, hR, hF, hP, hD, hS⟩ hl)
set_option maxHeartbeats 4000000 in
set_option maxRecDepth 100000 in
theorem lwc_25 {p : Program} {e : Env} {s : State} {m : MethodId} {below : List Frame} {meth : Method} {c : Code} (l : Launch) (hlt : l.stackTraces = false) {b L : Nat} {xs : Nat → Int32} (hL : L ≤ 3072) (C0 : lw_At p s m meth c b L xs) {D : va_G} {kI kJ kL : ClassId} {sa1 sa2 x y o : Nat} (K0 : lwK D kI kJ kL sa1 sa2 s) {i : Nat} (hi : i + 6 ≤ L) {cells slots : Nat} (hc : cells + 5 ≤ 603072) (hs : slots + 40 ≤ 7262314)
    (cont : ∀ (H : Heap) (locs : List Loc) (ls : Array Slot), lwI D kI kJ kL s x y o H locs → lv_has ls 8 [(4, .int (nI i)), (0, .ref b), (1, .ref x), (2, .ref y), (3, .ref o)] → W p l e room_1 s m #[Value.ref b] below meth c H locs (cells + 5) (slots + 40) (lw_Z below #[Value.ref b] s) (F0 m 1124 ls []))
    (H : Heap) (locs : List Loc) (ls : Array Slot) (hI : lwI D kI kJ kL s x y o H locs) (hl : lv_has ls 8 [(4, .int (nI i)), (0, .ref b), (1, .ref x), (2, .ref y), (3, .ref o)]) : W p l e room_1 s m #[Value.ref b] below meth c H locs cells slots (lw_Z below #[Value.ref b] s) (F0 m 1111 ls []) := by
  obtain ⟨hx, hb, hr, hml, hown0, hts0, hX, hbl, hlocks, hgv⟩ := C0
  have hown := hownL hown0
  have hts : ∀ w ∈ wsL_law, w.before #[Value.ref b] s = true := fun w h => hts0 w (wsL_law_in w h)
  obtain ⟨hK, hN, hT, hNc⟩ := K0
  have hA : ∀ q : Nat, s.heap.size ≤ q → (fun q : Nat => s.heap.size ≤ q) q := fun _ h => h
  have hbA : ¬ (fun q : Nat => s.heap.size ≤ q) b := Nat.not_le.mpr hbl
  obtain ⟨a, q, S, N, F, B, n, am, M, G, g, rfl, rfl, h, hF, hP, hD, hS⟩ := hI
  have h0 := h.f0 0
  refine lv_aload_n hx hb dL_law_1111 rfl (lv_at hl 2 rfl) ?_
  refine qw_i (w2 := (mW kI kJ am M G ++ [(o, .inl (kJ, 1, .inr (.inl g)))])) (va_runV (As := []) (rest := []) ⟨hx, hb, hml, hown, hts⟩ (c_X1_clear l D kI kJ kL a q S N F B H.size  ) (cwV 0 hts gL_law_X1_clear rfl rfl rfl (by decide +kernel) ⟨Nat.le_of_ble_eq_true rfl, Nat.le_of_ble_eq_true rfl⟩) (q_wV (w2 := (mW kI kJ am M G ++ [(o, .inl (kJ, 1, .inr (.inl g)))])) hK hN hP hD (va_recv hK hP (ci := 4) (q0 := 0) rfl rfl)) rfl rfl hl.1 rfl (lv_room (Nat.le_of_ble_eq_true rfl)) dL_law_1112 ⟨by show cells + 0 ≤ 603072; omega, by show slots + 0 ≤ 7262314; omega⟩) hP hD hS hA (fun r1 u1 H locs h1 hP hD hS => ?_)
  obtain ⟨rfl, rfl⟩ := h1
  have hP : va_P D vwCl (xW kI kL a q (xcl S 6) N F 0 ++ (mW kI kJ am M G ++ [(o, .inl (kJ, 1, .inr (.inl g)))])) H := hP
  have hD : va_D (fun q : Nat => s.heap.size ≤ q) (xW kI kL a q (xcl S 6) N F 0 ++ (mW kI kJ am M G ++ [(o, .inl (kJ, 1, .inr (.inl g)))])) := hD
  have hP := rotP hP
  have hD := rotD hD
  refine lv_aload_n hx hb dL_law_1115 rfl (lv_at hl 3 rfl) ?_
  refine qw_i (w2 := ([(o, .inl (kJ, 1, .inr (.inl g)))] ++ xW kI kL a q (xcl S 6) N F 0)) (va_runV (As := []) (rest := [.int (S 6 0)]) ⟨hx, hb, hml, hown, hts⟩ (c_X2_clear l D kI kJ kL am M G H.size  ) (cwV 0 hts gL_law_X2_clear rfl rfl rfl (by decide +kernel) ⟨Nat.le_of_ble_eq_true rfl, Nat.le_of_ble_eq_true rfl⟩) (q_wV (w2 := ([(o, .inl (kJ, 1, .inr (.inl g)))] ++ xW kI kL a q (xcl S 6) N F 0)) hK hN hP hD (va_recv hK hP (ci := 5) (q0 := 0) rfl rfl)) rfl rfl hl.1 rfl (lv_room (Nat.le_of_ble_eq_true rfl)) dL_law_1116 ⟨by show cells + 0 ≤ 603072; omega, by show slots + 0 ≤ 7262314; omega⟩) hP hD hS hA (fun r2 u2 H locs h2 hP hD hS => ?_)
  obtain ⟨rfl, rfl⟩ := h2
  obtain ⟨hE, hR⟩ := R_clear h0
  have hP : va_P D vwCl (mW kI kJ am (mcl (sU M 16 0 0) 6) G ++ ([(o, .inl (kJ, 1, .inr (.inl g)))] ++ xW kI kL a q (xcl S 6) N F 0)) H := hP
  have hD : va_D (fun q : Nat => s.heap.size ≤ q) (mW kI kJ am (mcl (sU M 16 0 0) 6) G ++ ([(o, .inl (kJ, 1, .inr (.inl g)))] ++ xW kI kL a q (xcl S 6) N F 0)) := hD
  have hP := rotP (rotP hP)
  have hD := rotD (rotD hD)
  refine lv_icmp_eq (tgt := 1124) hx hb dL_law_1119 (by decide) (fun c9 => ?_) (fun c9 => absurd hE c9)
  exact W.widen (k := cells + 5) (n := slots + 40) (by omega) (by omega) (cont _ _ _ ⟨a, q, _, N, F, 0, 0, am, _, _, g, rfl, rfl, hR, fun j hj => absurd hj (Nat.not_lt_zero _), hP, hD, hS⟩ hl)
