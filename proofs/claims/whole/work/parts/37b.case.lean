set_option maxHeartbeats 4000000 in
set_option maxRecDepth 100000 in
theorem lwc_1 {p : Program} {e : Env} {s : State} {m : MethodId} {below : List Frame} {meth : Method} {c : Code} (l : Launch) (hlt : l.stackTraces = false) {b L : Nat} {xs : Nat → Int32} (hL : L ≤ 3072) (C0 : lw_At p s m meth c b L xs) {D : va_G} {kI kJ kL : ClassId} {sa1 sa2 x y o : Nat} (K0 : lwK D kI kJ kL sa1 sa2 s) {i : Nat} (hi : i + 6 ≤ L) {cells slots : Nat} (hc : cells + 5 ≤ 603072) (hs : slots + 40 ≤ 7262314)
    (cont : ∀ (H : Heap) (locs : List Loc) (ls : Array Slot), lwI D kI kJ kL s x y o H locs → lv_has ls 8 [(4, .int (nI i)), (0, .ref b), (1, .ref x), (2, .ref y), (3, .ref o)] → W p l e room_1 s m #[Value.ref b] below meth c H locs (cells + 5) (slots + 40) (lw_Z below #[Value.ref b] s) (F0 m 1124 ls []))
    (H : Heap) (locs : List Loc) (ls : Array Slot) (hI : lwI D kI kJ kL s x y o H locs) (hl : lv_has ls 8 [(4, .int (nI i)), (0, .ref b), (1, .ref x), (2, .ref y), (3, .ref o)]) : W p l e room_1 s m #[Value.ref b] below meth c H locs cells slots (lw_Z below #[Value.ref b] s) (F0 m 197 ls []) := by
  obtain ⟨hx, hb, hr, hml, hown0, hts0, hX, hbl, hlocks, hgv⟩ := C0
  have hown := hownL hown0
  have hts : ∀ w ∈ wsL_law, w.before #[Value.ref b] s = true := fun w h => hts0 w (wsL_law_in w h)
  obtain ⟨hK, hN, hT, hNc⟩ := K0
  have hA : ∀ q : Nat, s.heap.size ≤ q → (fun q : Nat => s.heap.size ≤ q) q := fun _ h => h
  have hbA : ¬ (fun q : Nat => s.heap.size ≤ q) b := Nat.not_le.mpr hbl
  obtain ⟨a, q, S, N, F, B, n, am, M, G, g, rfl, rfl, h, hF, hP, hD, hS⟩ := hI
  have h0 := h.f0 0
  obtain ⟨p1, e1⟩ : ∃ v : Int32, xs (nI i + nI 1).toNatClampNeg = v := ⟨_, rfl⟩
  obtain ⟨p2, e2⟩ : ∃ v : Int32, xs (nI i + nI 2).toNatClampNeg = v := ⟨_, rfl⟩
  refine lv_aload_n hx hb dL_law_197 rfl (lv_at hl 2 rfl) ?_
  refine lv_aload_n hx hb dL_law_198 rfl (lv_at hl 1 rfl) ?_
  refine lv_iload hx hb dL_law_199 (lv_at hl 0 rfl) ?_
  refine lv_iconst (v := 1) hx hb dL_law_201 (by decide) ?_
  refine lv_iadd hx hb dL_law_202 ?_
  refine q_sld hx hb hX hbl hbA hS (sc_in 1 hi hL (by omega)) e1 dL_law_203 ?_
  refine lv_aload_n hx hb dL_law_204 rfl (lv_at hl 1 rfl) ?_
  refine lv_iload hx hb dL_law_205 (lv_at hl 0 rfl) ?_
  refine lv_iconst (v := 2) hx hb dL_law_207 (by decide) ?_
  refine lv_iadd hx hb dL_law_208 ?_
  refine q_sld hx hb hX hbl hbA hS (sc_in 2 hi hL (by omega)) e2 dL_law_209 ?_
  refine qw_i (w2 := (mW kI kJ am M G ++ [(o, .inl (kJ, 1, .inr (.inl g)))])) (va_runV (As := [.int p1, .int p2]) (rest := []) ⟨hx, hb, hml, hown, hts⟩ (c_X1_row l D kI kJ kL a q S N F B H.size p1 p2 n h.s6 h.n110) (cwV 2 hts gL_law_X1_row rfl rfl rfl (by decide +kernel) ⟨Nat.le_of_ble_eq_true rfl, Nat.le_of_ble_eq_true rfl⟩) (q_wV (w2 := (mW kI kJ am M G ++ [(o, .inl (kJ, 1, .inr (.inl g)))])) hK hN hP hD (va_recv hK hP (ci := 4) (q0 := 0) rfl rfl)) rfl rfl hl.1 rfl (lv_room (Nat.le_of_ble_eq_true rfl)) dL_law_210 ⟨by show cells + 0 ≤ 603072; omega, by show slots + 0 ≤ 7262314; omega⟩) hP hD hS hA (fun r1 u1 H locs h1 hP hD hS => ?_)
  obtain ⟨rfl, rfl⟩ := h1
  have hP : va_P D vwCl (xW kI kL a q (xs_row S p1 p2).2 N F B ++ (mW kI kJ am M G ++ [(o, .inl (kJ, 1, .inr (.inl g)))])) H := hP
  have hD : va_D (fun q : Nat => s.heap.size ≤ q) (xW kI kL a q (xs_row S p1 p2).2 N F B ++ (mW kI kJ am M G ++ [(o, .inl (kJ, 1, .inr (.inl g)))])) := hD
  have hP := rotP hP
  have hD := rotD hD
  refine lv_aload_n hx hb dL_law_213 rfl (lv_at hl 3 rfl) ?_
  refine lv_aload_n hx hb dL_law_214 rfl (lv_at hl 1 rfl) ?_
  refine lv_iload hx hb dL_law_215 (lv_at hl 0 rfl) ?_
  refine lv_iconst (v := 1) hx hb dL_law_217 (by decide) ?_
  refine lv_iadd hx hb dL_law_218 ?_
  refine q_sld hx hb hX hbl hbA hS (sc_in 1 hi hL (by omega)) e1 dL_law_219 ?_
  refine lv_aload_n hx hb dL_law_220 rfl (lv_at hl 1 rfl) ?_
  refine lv_iload hx hb dL_law_221 (lv_at hl 0 rfl) ?_
  refine lv_iconst (v := 2) hx hb dL_law_223 (by decide) ?_
  refine lv_iadd hx hb dL_law_224 ?_
  refine q_sld hx hb hX hbl hbA hS (sc_in 2 hi hL (by omega)) e2 dL_law_225 ?_
  refine qw_i (w2 := ([(o, .inl (kJ, 1, .inr (.inl g)))] ++ xW kI kL a q (xs_row S p1 p2).2 N F B)) (va_runV (As := [.int p1, .int p2]) (rest := [.int ((xs_row S p1 p2).1)]) ⟨hx, hb, hml, hown, hts⟩ (c_X2_row l D kI kJ kL am M G H.size p1 p2 n h.m6 h.n110) (cwV 2 hts gL_law_X2_row rfl rfl rfl (by decide +kernel) ⟨Nat.le_of_ble_eq_true rfl, Nat.le_of_ble_eq_true rfl⟩) (q_wV (w2 := ([(o, .inl (kJ, 1, .inr (.inl g)))] ++ xW kI kL a q (xs_row S p1 p2).2 N F B)) hK hN hP hD (va_recv hK hP (ci := 5) (q0 := 0) rfl rfl)) rfl rfl hl.1 rfl (lv_room (Nat.le_of_ble_eq_true rfl)) dL_law_226 ⟨by show cells + 0 ≤ 603072; omega, by show slots + 0 ≤ 7262314; omega⟩) hP hD hS hA (fun r2 u2 H locs h2 hP hD hS => ?_)
  obtain ⟨rfl, rfl⟩ := h2
  obtain ⟨hE, n2, hR⟩ := R_mrow h0 p1 p2
  have hP : va_P D vwCl (mW kI kJ am (ms_row (sU M 16 0 0) G p1 p2).2.1 (ms_row (sU M 16 0 0) G p1 p2).2.2 ++ ([(o, .inl (kJ, 1, .inr (.inl g)))] ++ xW kI kL a q (xs_row S p1 p2).2 N F B)) H := hP
  have hD : va_D (fun q : Nat => s.heap.size ≤ q) (mW kI kJ am (ms_row (sU M 16 0 0) G p1 p2).2.1 (ms_row (sU M 16 0 0) G p1 p2).2.2 ++ ([(o, .inl (kJ, 1, .inr (.inl g)))] ++ xW kI kL a q (xs_row S p1 p2).2 N F B)) := hD
  have hP := rotP (rotP hP)
  have hD := rotD (rotD hD)
  refine lv_icmp_eq (tgt := 1124) hx hb dL_law_229 (by decide) (fun c9 => ?_) (fun c9 => absurd hE c9)
  exact W.widen (k := cells + 5) (n := slots + 40) (by omega) (by omega) (cont _ _ _ ⟨a, q, _, N, F, B, n2, am, _, _, g, rfl, rfl, hR, hF, hP, hD, hS⟩ hl)
set_option maxHeartbeats 4000000 in
set_option maxRecDepth 100000 in
theorem lwc_2 {p : Program} {e : Env} {s : State} {m : MethodId} {below : List Frame} {meth : Method} {c : Code} (l : Launch) (hlt : l.stackTraces = false) {b L : Nat} {xs : Nat → Int32} (hL : L ≤ 3072) (C0 : lw_At p s m meth c b L xs) {D : va_G} {kI kJ kL : ClassId} {sa1 sa2 x y o : Nat} (K0 : lwK D kI kJ kL sa1 sa2 s) {i : Nat} (hi : i + 6 ≤ L) {cells slots : Nat} (hc : cells + 5 ≤ 603072) (hs : slots + 40 ≤ 7262314)
    (cont : ∀ (H : Heap) (locs : List Loc) (ls : Array Slot), lwI D kI kJ kL s x y o H locs → lv_has ls 8 [(4, .int (nI i)), (0, .ref b), (1, .ref x), (2, .ref y), (3, .ref o)] → W p l e room_1 s m #[Value.ref b] below meth c H locs (cells + 5) (slots + 40) (lw_Z below #[Value.ref b] s) (F0 m 1124 ls []))
    (H : Heap) (locs : List Loc) (ls : Array Slot) (hI : lwI D kI kJ kL s x y o H locs) (hl : lv_has ls 8 [(4, .int (nI i)), (0, .ref b), (1, .ref x), (2, .ref y), (3, .ref o)]) : W p l e room_1 s m #[Value.ref b] below meth c H locs cells slots (lw_Z below #[Value.ref b] s) (F0 m 234 ls []) := by
  obtain ⟨hx, hb, hr, hml, hown0, hts0, hX, hbl, hlocks, hgv⟩ := C0
  have hown := hownL hown0
  have hts : ∀ w ∈ wsL_law, w.before #[Value.ref b] s = true := fun w h => hts0 w (wsL_law_in w h)
  obtain ⟨hK, hN, hT, hNc⟩ := K0
  have hA : ∀ q : Nat, s.heap.size ≤ q → (fun q : Nat => s.heap.size ≤ q) q := fun _ h => h
  have hbA : ¬ (fun q : Nat => s.heap.size ≤ q) b := Nat.not_le.mpr hbl
  obtain ⟨a, q, S, N, F, B, n, am, M, G, g, rfl, rfl, h, hF, hP, hD, hS⟩ := hI
  have h0 := h.f0 0
  refine lv_aload_n hx hb dL_law_234 rfl (lv_at hl 2 rfl) ?_
  refine qw_i (w2 := (mW kI kJ am M G ++ [(o, .inl (kJ, 1, .inr (.inl g)))])) (va_runV (As := []) (rest := []) ⟨hx, hb, hml, hown, hts⟩ (c_X1_makeCase l D kI kJ kL a q S N F B H.size  n h.s6 h.n110) (cwV 0 hts gL_law_X1_makeCase rfl rfl rfl (by decide +kernel) ⟨Nat.le_of_ble_eq_true rfl, Nat.le_of_ble_eq_true rfl⟩) (q_wV (w2 := (mW kI kJ am M G ++ [(o, .inl (kJ, 1, .inr (.inl g)))])) hK hN hP hD (va_recv hK hP (ci := 4) (q0 := 0) rfl rfl)) rfl rfl hl.1 rfl (lv_room (Nat.le_of_ble_eq_true rfl)) dL_law_235 ⟨by show cells + 0 ≤ 603072; omega, by show slots + 0 ≤ 7262314; omega⟩) hP hD hS hA (fun r1 u1 H locs h1 hP hD hS => ?_)
  obtain ⟨rfl, rfl⟩ := h1
  have hP : va_P D vwCl (xW kI kL a q (xs_makeCase S ).2 N F B ++ (mW kI kJ am M G ++ [(o, .inl (kJ, 1, .inr (.inl g)))])) H := hP
  have hD : va_D (fun q : Nat => s.heap.size ≤ q) (xW kI kL a q (xs_makeCase S ).2 N F B ++ (mW kI kJ am M G ++ [(o, .inl (kJ, 1, .inr (.inl g)))])) := hD
  have hP := rotP hP
  have hD := rotD hD
  refine lv_aload_n hx hb dL_law_238 rfl (lv_at hl 3 rfl) ?_
  refine qw_i (w2 := ([(o, .inl (kJ, 1, .inr (.inl g)))] ++ xW kI kL a q (xs_makeCase S ).2 N F B)) (va_runV (As := []) (rest := [.int ((xs_makeCase S ).1)]) ⟨hx, hb, hml, hown, hts⟩ (c_X2_makeCase l D kI kJ kL am M G H.size  n h.m6 h.n110) (cwV 0 hts gL_law_X2_makeCase rfl rfl rfl (by decide +kernel) ⟨Nat.le_of_ble_eq_true rfl, Nat.le_of_ble_eq_true rfl⟩) (q_wV (w2 := ([(o, .inl (kJ, 1, .inr (.inl g)))] ++ xW kI kL a q (xs_makeCase S ).2 N F B)) hK hN hP hD (va_recv hK hP (ci := 5) (q0 := 0) rfl rfl)) rfl rfl hl.1 rfl (lv_room (Nat.le_of_ble_eq_true rfl)) dL_law_239 ⟨by show cells + 0 ≤ 603072; omega, by show slots + 0 ≤ 7262314; omega⟩) hP hD hS hA (fun r2 u2 H locs h2 hP hD hS => ?_)
  obtain ⟨rfl, rfl⟩ := h2
  obtain ⟨hE, n2, hR⟩ := R_makeCase h0 
  have hP : va_P D vwCl (mW kI kJ am (ms_makeCase (sU M 16 0 0) G ).2.1 (ms_makeCase (sU M 16 0 0) G ).2.2 ++ ([(o, .inl (kJ, 1, .inr (.inl g)))] ++ xW kI kL a q (xs_makeCase S ).2 N F B)) H := hP
  have hD : va_D (fun q : Nat => s.heap.size ≤ q) (mW kI kJ am (ms_makeCase (sU M 16 0 0) G ).2.1 (ms_makeCase (sU M 16 0 0) G ).2.2 ++ ([(o, .inl (kJ, 1, .inr (.inl g)))] ++ xW kI kL a q (xs_makeCase S ).2 N F B)) := hD
  have hP := rotP (rotP hP)
  have hD := rotD (rotD hD)
  refine lv_icmp_eq (tgt := 1124) hx hb dL_law_242 (by decide) (fun c9 => ?_) (fun c9 => absurd hE c9)
  exact W.widen (k := cells + 5) (n := slots + 40) (by omega) (by omega) (cont _ _ _ ⟨a, q, _, N, F, B, n2, am, _, _, g, rfl, rfl, hR, hF, hP, hD, hS⟩ hl)
set_option maxHeartbeats 4000000 in
set_option maxRecDepth 100000 in
theorem lwc_4 {p : Program} {e : Env} {s : State} {m : MethodId} {below : List Frame} {meth : Method} {c : Code} (l : Launch) (hlt : l.stackTraces = false) {b L : Nat} {xs : Nat → Int32} (hL : L ≤ 3072) (C0 : lw_At p s m meth c b L xs) {D : va_G} {kI kJ kL : ClassId} {sa1 sa2 x y o : Nat} (K0 : lwK D kI kJ kL sa1 sa2 s) {i : Nat} (hi : i + 6 ≤ L) {cells slots : Nat} (hc : cells + 5 ≤ 603072) (hs : slots + 40 ≤ 7262314)
    (cont : ∀ (H : Heap) (locs : List Loc) (ls : Array Slot), lwI D kI kJ kL s x y o H locs → lv_has ls 8 [(4, .int (nI i)), (0, .ref b), (1, .ref x), (2, .ref y), (3, .ref o)] → W p l e room_1 s m #[Value.ref b] below meth c H locs (cells + 5) (slots + 40) (lw_Z below #[Value.ref b] s) (F0 m 1124 ls []))
    (H : Heap) (locs : List Loc) (ls : Array Slot) (hI : lwI D kI kJ kL s x y o H locs) (hl : lv_has ls 8 [(4, .int (nI i)), (0, .ref b), (1, .ref x), (2, .ref y), (3, .ref o)]) : W p l e room_1 s m #[Value.ref b] below meth c H locs cells slots (lw_Z below #[Value.ref b] s) (F0 m 284 ls []) := by
  obtain ⟨hx, hb, hr, hml, hown0, hts0, hX, hbl, hlocks, hgv⟩ := C0
  have hown := hownL hown0
  have hts : ∀ w ∈ wsL_law, w.before #[Value.ref b] s = true := fun w h => hts0 w (wsL_law_in w h)
  obtain ⟨hK, hN, hT, hNc⟩ := K0
  have hA : ∀ q : Nat, s.heap.size ≤ q → (fun q : Nat => s.heap.size ≤ q) q := fun _ h => h
  have hbA : ¬ (fun q : Nat => s.heap.size ≤ q) b := Nat.not_le.mpr hbl
  obtain ⟨a, q, S, N, F, B, n, am, M, G, g, rfl, rfl, h, hF, hP, hD, hS⟩ := hI
  have h0 := h.f0 0
  obtain ⟨p1, e1⟩ : ∃ v : Int32, xs (nI i + nI 1).toNatClampNeg = v := ⟨_, rfl⟩
  refine lv_aload_n hx hb dL_law_284 rfl (lv_at hl 2 rfl) ?_
  refine lv_aload_n hx hb dL_law_285 rfl (lv_at hl 1 rfl) ?_
  refine lv_iload hx hb dL_law_286 (lv_at hl 0 rfl) ?_
  refine lv_iconst (v := 1) hx hb dL_law_288 (by decide) ?_
  refine lv_iadd hx hb dL_law_289 ?_
  refine q_sld hx hb hX hbl hbA hS (sc_in 1 hi hL (by omega)) e1 dL_law_290 ?_
  refine vp_callSi (W.runV (As := [.int p1]) (rest := []) ⟨hx, hb, hml, hown, hts⟩ (c_X1_kinds l D kI kJ kL a q S N F B p1 h.s110) (cwV 1 hts gL_law_X1_kinds rfl rfl rfl (by decide +kernel) ⟨Nat.le_of_ble_eq_true rfl, Nat.le_of_ble_eq_true rfl⟩) (q_rV (w2 := (mW kI kJ am M G ++ [(o, .inl (kJ, 1, .inr (.inl g)))])) hK hN hP (va_recv hK hP (ci := 4) (q0 := 0) rfl rfl)) rfl rfl hl.1 rfl (lv_room (Nat.le_of_ble_eq_true rfl)) dL_law_291 ⟨by show cells + 0 ≤ 603072; omega, by show slots + 0 ≤ 7262314; omega⟩) (fun r1 h1 => ?_)
  subst h1
  have hP : va_P D vwCl (xW kI kL a q S N F B ++ (mW kI kJ am M G ++ [(o, .inl (kJ, 1, .inr (.inl g)))])) H := hP
  have hD : va_D (fun q : Nat => s.heap.size ≤ q) (xW kI kL a q S N F B ++ (mW kI kJ am M G ++ [(o, .inl (kJ, 1, .inr (.inl g)))])) := hD
  have hP := rotP hP
  have hD := rotD hD
  refine lv_aload_n hx hb dL_law_294 rfl (lv_at hl 3 rfl) ?_
  refine lv_aload_n hx hb dL_law_295 rfl (lv_at hl 1 rfl) ?_
  refine lv_iload hx hb dL_law_296 (lv_at hl 0 rfl) ?_
  refine lv_iconst (v := 1) hx hb dL_law_298 (by decide) ?_
  refine lv_iadd hx hb dL_law_299 ?_
  refine q_sld hx hb hX hbl hbA hS (sc_in 1 hi hL (by omega)) e1 dL_law_300 ?_
  refine qw_i (w2 := ([(o, .inl (kJ, 1, .inr (.inl g)))] ++ xW kI kL a q S N F B)) (va_runV (As := [.int p1]) (rest := [.int (xs_kinds S p1)]) ⟨hx, hb, hml, hown, hts⟩ (c_X2_kinds l D kI kJ kL am M G H.size p1 n h.m6 h.n110 h.fm) (cwV 1 hts gL_law_X2_kinds rfl rfl rfl (by decide +kernel) ⟨Nat.le_of_ble_eq_true rfl, Nat.le_of_ble_eq_true rfl⟩) (q_wV (w2 := ([(o, .inl (kJ, 1, .inr (.inl g)))] ++ xW kI kL a q S N F B)) hK hN hP hD (va_recv hK hP (ci := 5) (q0 := 0) rfl rfl)) rfl rfl hl.1 rfl (lv_room (Nat.le_of_ble_eq_true rfl)) dL_law_301 ⟨by show cells + 0 ≤ 603072; omega, by show slots + 0 ≤ 7262314; omega⟩) hP hD hS hA (fun r2 u2 H locs h2 hP hD hS => ?_)
  obtain ⟨rfl, rfl⟩ := h2
  have hR := h0
  have hE := R_kinds h0 p1
  have hP : va_P D vwCl (mW kI kJ am (sU M 16 0 0) G ++ ([(o, .inl (kJ, 1, .inr (.inl g)))] ++ xW kI kL a q S N F B)) H := hP
  have hD : va_D (fun q : Nat => s.heap.size ≤ q) (mW kI kJ am (sU M 16 0 0) G ++ ([(o, .inl (kJ, 1, .inr (.inl g)))] ++ xW kI kL a q S N F B)) := hD
  have hP := rotP (rotP hP)
  have hD := rotD (rotD hD)
  refine lv_icmp_eq (tgt := 1124) hx hb dL_law_304 (by decide) (fun c9 => ?_) (fun c9 => absurd hE c9)
  exact W.widen (k := cells + 5) (n := slots + 40) (by omega) (by omega) (cont _ _ _ ⟨a, q, S, N, F, B, n, am, _, _, g, rfl, rfl, hR, hF, hP, hD, hS⟩ hl)
set_option maxHeartbeats 4000000 in
set_option maxRecDepth 100000 in
theorem lwc_5 {p : Program} {e : Env} {s : State} {m : MethodId} {below : List Frame} {meth : Method} {c : Code} (l : Launch) (hlt : l.stackTraces = false) {b L : Nat} {xs : Nat → Int32} (hL : L ≤ 3072) (C0 : lw_At p s m meth c b L xs) {D : va_G} {kI kJ kL : ClassId} {sa1 sa2 x y o : Nat} (K0 : lwK D kI kJ kL sa1 sa2 s) {i : Nat} (hi : i + 6 ≤ L) {cells slots : Nat} (hc : cells + 5 ≤ 603072) (hs : slots + 40 ≤ 7262314)
    (cont : ∀ (H : Heap) (locs : List Loc) (ls : Array Slot), lwI D kI kJ kL s x y o H locs → lv_has ls 8 [(4, .int (nI i)), (0, .ref b), (1, .ref x), (2, .ref y), (3, .ref o)] → W p l e room_1 s m #[Value.ref b] below meth c H locs (cells + 5) (slots + 40) (lw_Z below #[Value.ref b] s) (F0 m 1124 ls []))
    (H : Heap) (locs : List Loc) (ls : Array Slot) (hI : lwI D kI kJ kL s x y o H locs) (hl : lv_has ls 8 [(4, .int (nI i)), (0, .ref b), (1, .ref x), (2, .ref y), (3, .ref o)]) : W p l e room_1 s m #[Value.ref b] below meth c H locs cells slots (lw_Z below #[Value.ref b] s) (F0 m 309 ls []) := by
  obtain ⟨hx, hb, hr, hml, hown0, hts0, hX, hbl, hlocks, hgv⟩ := C0
  have hown := hownL hown0
  have hts : ∀ w ∈ wsL_law, w.before #[Value.ref b] s = true := fun w h => hts0 w (wsL_law_in w h)
  obtain ⟨hK, hN, hT, hNc⟩ := K0
  have hA : ∀ q : Nat, s.heap.size ≤ q → (fun q : Nat => s.heap.size ≤ q) q := fun _ h => h
  have hbA : ¬ (fun q : Nat => s.heap.size ≤ q) b := Nat.not_le.mpr hbl
  obtain ⟨a, q, S, N, F, B, n, am, M, G, g, rfl, rfl, h, hF, hP, hD, hS⟩ := hI
  have h0 := h.f0 0
  obtain ⟨p1, e1⟩ : ∃ v : Int32, xs (nI i + nI 1).toNatClampNeg = v := ⟨_, rfl⟩
  obtain ⟨p2, e2⟩ : ∃ v : Int32, xs (nI i + nI 2).toNatClampNeg = v := ⟨_, rfl⟩
  refine lv_aload_n hx hb dL_law_309 rfl (lv_at hl 2 rfl) ?_
  refine lv_aload_n hx hb dL_law_310 rfl (lv_at hl 1 rfl) ?_
  refine lv_iload hx hb dL_law_311 (lv_at hl 0 rfl) ?_
  refine lv_iconst (v := 1) hx hb dL_law_313 (by decide) ?_
  refine lv_iadd hx hb dL_law_314 ?_
  refine q_sld hx hb hX hbl hbA hS (sc_in 1 hi hL (by omega)) e1 dL_law_315 ?_
  refine lv_aload_n hx hb dL_law_316 rfl (lv_at hl 1 rfl) ?_
  refine lv_iload hx hb dL_law_317 (lv_at hl 0 rfl) ?_
  refine lv_iconst (v := 2) hx hb dL_law_319 (by decide) ?_
  refine lv_iadd hx hb dL_law_320 ?_
  refine q_sld hx hb hX hbl hbA hS (sc_in 2 hi hL (by omega)) e2 dL_law_321 ?_
  refine qw_i (w2 := (mW kI kJ am M G ++ [(o, .inl (kJ, 1, .inr (.inl g)))])) (va_runV (As := [.int p1, .int p2]) (rest := []) ⟨hx, hb, hml, hown, hts⟩ (c_X1_worth l D kI kJ kL a q S N F B H.size p1 p2 h.s110) (cwV 2 hts gL_law_X1_worth rfl rfl rfl (by decide +kernel) ⟨Nat.le_of_ble_eq_true rfl, Nat.le_of_ble_eq_true rfl⟩) (q_wV (w2 := (mW kI kJ am M G ++ [(o, .inl (kJ, 1, .inr (.inl g)))])) hK hN hP hD (va_recv hK hP (ci := 4) (q0 := 0) rfl rfl)) rfl rfl hl.1 rfl (lv_room (Nat.le_of_ble_eq_true rfl)) dL_law_322 ⟨by show cells + 0 ≤ 603072; omega, by show slots + 0 ≤ 7262314; omega⟩) hP hD hS hA (fun r1 u1 H locs h1 hP hD hS => ?_)
  obtain ⟨rfl, rfl⟩ := h1
  have hP : va_P D vwCl (xW kI kL a q (xs_worth S p1 p2).2 N F B ++ (mW kI kJ am M G ++ [(o, .inl (kJ, 1, .inr (.inl g)))])) H := hP
  have hD : va_D (fun q : Nat => s.heap.size ≤ q) (xW kI kL a q (xs_worth S p1 p2).2 N F B ++ (mW kI kJ am M G ++ [(o, .inl (kJ, 1, .inr (.inl g)))])) := hD
  have hP := rotP hP
  have hD := rotD hD
  refine lv_aload_n hx hb dL_law_325 rfl (lv_at hl 3 rfl) ?_
  refine lv_aload_n hx hb dL_law_326 rfl (lv_at hl 1 rfl) ?_
  refine lv_iload hx hb dL_law_327 (lv_at hl 0 rfl) ?_
  refine lv_iconst (v := 1) hx hb dL_law_329 (by decide) ?_
  refine lv_iadd hx hb dL_law_330 ?_
  refine q_sld hx hb hX hbl hbA hS (sc_in 1 hi hL (by omega)) e1 dL_law_331 ?_
  refine lv_aload_n hx hb dL_law_332 rfl (lv_at hl 1 rfl) ?_
  refine lv_iload hx hb dL_law_333 (lv_at hl 0 rfl) ?_
  refine lv_iconst (v := 2) hx hb dL_law_335 (by decide) ?_
  refine lv_iadd hx hb dL_law_336 ?_
  refine q_sld hx hb hX hbl hbA hS (sc_in 2 hi hL (by omega)) e2 dL_law_337 ?_
  refine qw_i (w2 := ([(o, .inl (kJ, 1, .inr (.inl g)))] ++ xW kI kL a q (xs_worth S p1 p2).2 N F B)) (va_runV (As := [.int p1, .int p2]) (rest := [.int ((xs_worth S p1 p2).1)]) ⟨hx, hb, hml, hown, hts⟩ (c_X2_worth l D kI kJ kL am M G H.size p1 p2 n h.m6 h.n110 h.fm) (cwV 2 hts gL_law_X2_worth rfl rfl rfl (by decide +kernel) ⟨Nat.le_of_ble_eq_true rfl, Nat.le_of_ble_eq_true rfl⟩) (q_wV (w2 := ([(o, .inl (kJ, 1, .inr (.inl g)))] ++ xW kI kL a q (xs_worth S p1 p2).2 N F B)) hK hN hP hD (va_recv hK hP (ci := 5) (q0 := 0) rfl rfl)) rfl rfl hl.1 rfl (lv_room (Nat.le_of_ble_eq_true rfl)) dL_law_338 ⟨by show cells + 0 ≤ 603072; omega, by show slots + 0 ≤ 7262314; omega⟩) hP hD hS hA (fun r2 u2 H locs h2 hP hD hS => ?_)
  obtain ⟨rfl, rfl⟩ := h2
  obtain ⟨hE, hR⟩ := R_worth h0 p1 p2
  have hP : va_P D vwCl (mW kI kJ am (ms_worth (sU M 16 0 0) p1 p2).2 G ++ ([(o, .inl (kJ, 1, .inr (.inl g)))] ++ xW kI kL a q (xs_worth S p1 p2).2 N F B)) H := hP
  have hD : va_D (fun q : Nat => s.heap.size ≤ q) (mW kI kJ am (ms_worth (sU M 16 0 0) p1 p2).2 G ++ ([(o, .inl (kJ, 1, .inr (.inl g)))] ++ xW kI kL a q (xs_worth S p1 p2).2 N F B)) := hD
  have hP := rotP (rotP hP)
  have hD := rotD (rotD hD)
  refine lv_icmp_eq (tgt := 1124) hx hb dL_law_341 (by decide) (fun c9 => ?_) (fun c9 => absurd hE c9)
  exact W.widen (k := cells + 5) (n := slots + 40) (by omega) (by omega) (cont _ _ _ ⟨a, q, _, N, F, B, n, am, _, _, g, rfl, rfl, hR, hF, hP, hD, hS⟩ hl)
