set_option maxHeartbeats 4000000 in
set_option maxRecDepth 100000 in
theorem lwc_3 {p : Program} {e : Env} {s : State} {m : MethodId} {below : List Frame} {meth : Method} {c : Code} (l : Launch) (hlt : l.stackTraces = false) {b L : Nat} {xs : Nat → Int32} (hL : L ≤ 3072) (C0 : lw_At p s m meth c b L xs) {D : va_G} {kI kJ kL : ClassId} {sa1 sa2 x y o : Nat} (K0 : lwK D kI kJ kL sa1 sa2 s) {i : Nat} (hi : i + 6 ≤ L) {cells slots : Nat} (hc : cells + 5 ≤ 603072) (hs : slots + 40 ≤ 7262314)
    (cont : ∀ (H : Heap) (locs : List Loc) (ls : Array Slot), lwI D kI kJ kL s x y o H locs → lv_has ls 8 [(4, .int (nI i)), (0, .ref b), (1, .ref x), (2, .ref y), (3, .ref o)] → W p l e room_1 s m #[Value.ref b] below meth c H locs (cells + 5) (slots + 40) (lw_Z below #[Value.ref b] s) (F0 m 1124 ls []))
    (H : Heap) (locs : List Loc) (ls : Array Slot) (hI : lwI D kI kJ kL s x y o H locs) (hl : lv_has ls 8 [(4, .int (nI i)), (0, .ref b), (1, .ref x), (2, .ref y), (3, .ref o)]) : W p l e room_1 s m #[Value.ref b] below meth c H locs cells slots (lw_Z below #[Value.ref b] s) (F0 m 247 ls []) := by
  obtain ⟨hx, hb, hr, hml, hown0, hts0, hX, hbl, hlocks, hgv⟩ := C0
  have hown := hownL hown0
  have hts : ∀ w ∈ wsL_law, w.before #[Value.ref b] s = true := fun w h => hts0 w (wsL_law_in w h)
  obtain ⟨hK, hN, hT, hNc⟩ := K0
  have hA : ∀ q : Nat, s.heap.size ≤ q → (fun q : Nat => s.heap.size ≤ q) q := fun _ h => h
  have hbA : ¬ (fun q : Nat => s.heap.size ≤ q) b := Nat.not_le.mpr hbl
  obtain ⟨a, q, S, N, F, B, n, am, M, G, g, rfl, rfl, h, hF, hP, hD, hS⟩ := hI
  have h0 := h.f0 0
  obtain ⟨p1, e1⟩ : ∃ v : Int32, xs (nI i + nI 1).toNatClampNeg = v := ⟨_, rfl⟩
  obtain ⟨p2, e2⟩ : ∃ v : Int32, xs (nI i + nI 2).toNatClampNeg = v := ⟨_, rfl⟩
  refine lv_aload_n hx hb dL_law_247 rfl (lv_at hl 2 rfl) ?_
  refine lv_aload_n hx hb dL_law_248 rfl (lv_at hl 1 rfl) ?_
  refine lv_iload hx hb dL_law_249 (lv_at hl 0 rfl) ?_
  refine lv_iconst (v := 1) hx hb dL_law_251 (by decide) ?_
  refine lv_iadd hx hb dL_law_252 ?_
  refine q_sld hx hb hX hbl hbA hS (sc_in 1 hi hL (by omega)) e1 dL_law_253 ?_
  refine lv_aload_n hx hb dL_law_254 rfl (lv_at hl 1 rfl) ?_
  refine lv_iload hx hb dL_law_255 (lv_at hl 0 rfl) ?_
  refine lv_iconst (v := 2) hx hb dL_law_257 (by decide) ?_
  refine lv_iadd hx hb dL_law_258 ?_
  refine q_sld hx hb hX hbl hbA hS (sc_in 2 hi hL (by omega)) e2 dL_law_259 ?_
  refine vp_callSi (W.runV (As := [.int p1, .int p2]) (rest := []) ⟨hx, hb, hml, hown, hts⟩ (c_X1_is l D kI kJ kL a q S N F B p1 p2 h.s110) (cwV 2 hts gL_law_X1_is rfl rfl rfl (by decide +kernel) ⟨Nat.le_of_ble_eq_true rfl, Nat.le_of_ble_eq_true rfl⟩) (q_rV (w2 := (mW kI kJ am M G ++ [(o, .inl (kJ, 1, .inr (.inl g)))])) hK hN hP (va_recv hK hP (ci := 4) (q0 := 0) rfl rfl)) rfl rfl hl.1 rfl (lv_room (Nat.le_of_ble_eq_true rfl)) dL_law_260 ⟨by show cells + 0 ≤ 603072; omega, by show slots + 0 ≤ 7262314; omega⟩) (fun r1 h1 => ?_)
  subst h1
  have hP : va_P D vwCl (xW kI kL a q S N F B ++ (mW kI kJ am M G ++ [(o, .inl (kJ, 1, .inr (.inl g)))])) H := hP
  have hD : va_D (fun q : Nat => s.heap.size ≤ q) (xW kI kL a q S N F B ++ (mW kI kJ am M G ++ [(o, .inl (kJ, 1, .inr (.inl g)))])) := hD
  have hP := rotP hP
  have hD := rotD hD
  refine lv_aload_n hx hb dL_law_263 rfl (lv_at hl 3 rfl) ?_
  refine lv_aload_n hx hb dL_law_264 rfl (lv_at hl 1 rfl) ?_
  refine lv_iload hx hb dL_law_265 (lv_at hl 0 rfl) ?_
  refine lv_iconst (v := 1) hx hb dL_law_267 (by decide) ?_
  refine lv_iadd hx hb dL_law_268 ?_
  refine q_sld hx hb hX hbl hbA hS (sc_in 1 hi hL (by omega)) e1 dL_law_269 ?_
  refine lv_aload_n hx hb dL_law_270 rfl (lv_at hl 1 rfl) ?_
  refine lv_iload hx hb dL_law_271 (lv_at hl 0 rfl) ?_
  refine lv_iconst (v := 2) hx hb dL_law_273 (by decide) ?_
  refine lv_iadd hx hb dL_law_274 ?_
  refine q_sld hx hb hX hbl hbA hS (sc_in 2 hi hL (by omega)) e2 dL_law_275 ?_
  refine qw_i (w2 := ([(o, .inl (kJ, 1, .inr (.inl g)))] ++ xW kI kL a q S N F B)) (va_runV (As := [.int p1, .int p2]) (rest := [.int (xs_is S p1 p2)]) ⟨hx, hb, hml, hown, hts⟩ (c_X2_is l D kI kJ kL am M G H.size p1 p2 n h.m6 h.n110 h.fm) (cwV 2 hts gL_law_X2_is rfl rfl rfl (by decide +kernel) ⟨Nat.le_of_ble_eq_true rfl, Nat.le_of_ble_eq_true rfl⟩) (q_wV (w2 := ([(o, .inl (kJ, 1, .inr (.inl g)))] ++ xW kI kL a q S N F B)) hK hN hP hD (va_recv hK hP (ci := 5) (q0 := 0) rfl rfl)) rfl rfl hl.1 rfl (lv_room (Nat.le_of_ble_eq_true rfl)) dL_law_276 ⟨by show cells + 0 ≤ 603072; omega, by show slots + 0 ≤ 7262314; omega⟩) hP hD hS hA (fun r2 u2 H locs h2 hP hD hS => ?_)
  obtain ⟨rfl, rfl⟩ := h2
  have hR := h0
  have hE := R_is h0 p1 p2
  have hP : va_P D vwCl (mW kI kJ am (sU M 16 0 0) G ++ ([(o, .inl (kJ, 1, .inr (.inl g)))] ++ xW kI kL a q S N F B)) H := hP
  have hD : va_D (fun q : Nat => s.heap.size ≤ q) (mW kI kJ am (sU M 16 0 0) G ++ ([(o, .inl (kJ, 1, .inr (.inl g)))] ++ xW kI kL a q S N F B)) := hD
  have hP := rotP (rotP hP)
  have hD := rotD (rotD hD)
  refine lv_icmp_eq (tgt := 1124) hx hb dL_law_279 (by decide) (fun c9 => ?_) (fun c9 => absurd hE c9)
  exact W.widen (k := cells + 5) (n := slots + 40) (by omega) (by omega) (cont _ _ _ ⟨a, q, S, N, F, B, n, am, _, _, g, rfl, rfl, hR, hF, hP, hD, hS⟩ hl)
set_option maxHeartbeats 4000000 in
set_option maxRecDepth 100000 in
theorem lwc_0 {p : Program} {e : Env} {s : State} {m : MethodId} {below : List Frame} {meth : Method} {c : Code} (l : Launch) (hlt : l.stackTraces = false) {b L : Nat} {xs : Nat → Int32} (hL : L ≤ 3072) (C0 : lw_At p s m meth c b L xs) {D : va_G} {kI kJ kL : ClassId} {sa1 sa2 x y o : Nat} (K0 : lwK D kI kJ kL sa1 sa2 s) {i : Nat} (hi : i + 6 ≤ L) {cells slots : Nat} (hc : cells + 5 ≤ 603072) (hs : slots + 40 ≤ 7262314)
    (cont : ∀ (H : Heap) (locs : List Loc) (ls : Array Slot), lwI D kI kJ kL s x y o H locs → lv_has ls 8 [(4, .int (nI i)), (0, .ref b), (1, .ref x), (2, .ref y), (3, .ref o)] → W p l e room_1 s m #[Value.ref b] below meth c H locs (cells + 5) (slots + 40) (lw_Z below #[Value.ref b] s) (F0 m 1124 ls []))
    (H : Heap) (locs : List Loc) (ls : Array Slot) (hI : lwI D kI kJ kL s x y o H locs) (hl : lv_has ls 8 [(4, .int (nI i)), (0, .ref b), (1, .ref x), (2, .ref y), (3, .ref o)]) : W p l e room_1 s m #[Value.ref b] below meth c H locs cells slots (lw_Z below #[Value.ref b] s) (F0 m 160 ls []) := by
  obtain ⟨hx, hb, hr, hml, hown0, hts0, hX, hbl, hlocks, hgv⟩ := C0
  have hown := hownL hown0
  have hts : ∀ w ∈ wsL_law, w.before #[Value.ref b] s = true := fun w h => hts0 w (wsL_law_in w h)
  obtain ⟨hK, hN, hT, hNc⟩ := K0
  have hA : ∀ q : Nat, s.heap.size ≤ q → (fun q : Nat => s.heap.size ≤ q) q := fun _ h => h
  have hbA : ¬ (fun q : Nat => s.heap.size ≤ q) b := Nat.not_le.mpr hbl
  obtain ⟨a, q, S, N, F, B, n, am, M, G, g, rfl, rfl, h, hF, hP, hD, hS⟩ := hI
  have h0 := h.f0 0
  obtain ⟨p1, e1⟩ : ∃ v : Int32, xs (nI i + nI 1).toNatClampNeg = v := ⟨_, rfl⟩
  obtain ⟨p2, e2⟩ : ∃ v : Int32, xs (nI i + nI 2).toNatClampNeg = v := ⟨_, rfl⟩
  refine lv_aload_n hx hb dL_law_160 rfl (lv_at hl 2 rfl) ?_
  refine lv_aload_n hx hb dL_law_161 rfl (lv_at hl 1 rfl) ?_
  refine lv_iload hx hb dL_law_162 (lv_at hl 0 rfl) ?_
  refine lv_iconst (v := 1) hx hb dL_law_164 (by decide) ?_
  refine lv_iadd hx hb dL_law_165 ?_
  refine q_sld hx hb hX hbl hbA hS (sc_in 1 hi hL (by omega)) e1 dL_law_166 ?_
  refine lv_aload_n hx hb dL_law_167 rfl (lv_at hl 1 rfl) ?_
  refine lv_iload hx hb dL_law_168 (lv_at hl 0 rfl) ?_
  refine lv_iconst (v := 2) hx hb dL_law_170 (by decide) ?_
  refine lv_iadd hx hb dL_law_171 ?_
  refine q_sld hx hb hX hbl hbA hS (sc_in 2 hi hL (by omega)) e2 dL_law_172 ?_
  refine qw_i (w2 := (mW kI kJ am M G ++ [(o, .inl (kJ, 1, .inr (.inl g)))])) (va_runV (As := [.int p1, .int p2]) (rest := []) ⟨hx, hb, hml, hown, hts⟩ (c_X1_thing l D kI kJ kL a q S N F B H.size p1 p2 n h.s6 h.n110) (cwV 2 hts gL_law_X1_thing rfl rfl rfl (by decide +kernel) ⟨Nat.le_of_ble_eq_true rfl, Nat.le_of_ble_eq_true rfl⟩) (q_wV (w2 := (mW kI kJ am M G ++ [(o, .inl (kJ, 1, .inr (.inl g)))])) hK hN hP hD (va_recv hK hP (ci := 4) (q0 := 0) rfl rfl)) rfl rfl hl.1 rfl (lv_room (Nat.le_of_ble_eq_true rfl)) dL_law_173 ⟨by show cells + 0 ≤ 603072; omega, by show slots + 0 ≤ 7262314; omega⟩) hP hD hS hA (fun r1 u1 H locs h1 hP hD hS => ?_)
  obtain ⟨rfl, rfl⟩ := h1
  have hP : va_P D vwCl (xW kI kL a q (xs_thing S p1 p2).2 N F B ++ (mW kI kJ am M G ++ [(o, .inl (kJ, 1, .inr (.inl g)))])) H := hP
  have hD : va_D (fun q : Nat => s.heap.size ≤ q) (xW kI kL a q (xs_thing S p1 p2).2 N F B ++ (mW kI kJ am M G ++ [(o, .inl (kJ, 1, .inr (.inl g)))])) := hD
  have hP := rotP hP
  have hD := rotD hD
  refine lv_aload_n hx hb dL_law_176 rfl (lv_at hl 3 rfl) ?_
  refine lv_aload_n hx hb dL_law_177 rfl (lv_at hl 1 rfl) ?_
  refine lv_iload hx hb dL_law_178 (lv_at hl 0 rfl) ?_
  refine lv_iconst (v := 1) hx hb dL_law_180 (by decide) ?_
  refine lv_iadd hx hb dL_law_181 ?_
  refine q_sld hx hb hX hbl hbA hS (sc_in 1 hi hL (by omega)) e1 dL_law_182 ?_
  refine lv_aload_n hx hb dL_law_183 rfl (lv_at hl 1 rfl) ?_
  refine lv_iload hx hb dL_law_184 (lv_at hl 0 rfl) ?_
  refine lv_iconst (v := 2) hx hb dL_law_186 (by decide) ?_
  refine lv_iadd hx hb dL_law_187 ?_
  refine q_sld hx hb hX hbl hbA hS (sc_in 2 hi hL (by omega)) e2 dL_law_188 ?_
  refine qw_i (w2 := ([(o, .inl (kJ, 1, .inr (.inl g)))] ++ xW kI kL a q (xs_thing S p1 p2).2 N F B)) (va_runV (As := [.int p1, .int p2]) (rest := [.int ((xs_thing S p1 p2).1)]) ⟨hx, hb, hml, hown, hts⟩ (c_X2_thing l D kI kJ kL am M G H.size p1 p2 n h.m6 h.n110) (cwV 2 hts gL_law_X2_thing rfl rfl rfl (by decide +kernel) ⟨Nat.le_of_ble_eq_true rfl, Nat.le_of_ble_eq_true rfl⟩) (q_wV (w2 := ([(o, .inl (kJ, 1, .inr (.inl g)))] ++ xW kI kL a q (xs_thing S p1 p2).2 N F B)) hK hN hP hD (va_recv hK hP (ci := 5) (q0 := 0) rfl rfl)) rfl rfl hl.1 rfl (lv_room (Nat.le_of_ble_eq_true rfl)) dL_law_189 ⟨by show cells + 0 ≤ 603072; omega, by show slots + 0 ≤ 7262314; omega⟩) hP hD hS hA (fun r2 u2 H locs h2 hP hD hS => ?_)
  obtain ⟨rfl, rfl⟩ := h2
  obtain ⟨hE, n2, hR⟩ := R_thing h0 p1 p2
  have hP : va_P D vwCl (mW kI kJ am (ms_thing (sU M 16 0 0) G p1 p2).2.1 (ms_thing (sU M 16 0 0) G p1 p2).2.2 ++ ([(o, .inl (kJ, 1, .inr (.inl g)))] ++ xW kI kL a q (xs_thing S p1 p2).2 N F B)) H := hP
  have hD : va_D (fun q : Nat => s.heap.size ≤ q) (mW kI kJ am (ms_thing (sU M 16 0 0) G p1 p2).2.1 (ms_thing (sU M 16 0 0) G p1 p2).2.2 ++ ([(o, .inl (kJ, 1, .inr (.inl g)))] ++ xW kI kL a q (xs_thing S p1 p2).2 N F B)) := hD
  have hP := rotP (rotP hP)
  have hD := rotD (rotD hD)
  refine lv_icmp_eq (tgt := 1124) hx hb dL_law_192 (by decide) (fun c9 => ?_) (fun c9 => absurd hE c9)
  exact W.widen (k := cells + 5) (n := slots + 40) (by omega) (by omega) (cont _ _ _ ⟨a, q, _, N, F, B, n2, am, _, _, g, rfl, rfl, hR, hF, hP, hD, hS⟩ hl)
