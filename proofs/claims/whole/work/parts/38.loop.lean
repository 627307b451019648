theorem nIm6 {L : Nat} (h : L ≤ 3072) : (nI L - 6).toInt = (L : Int) - 6 := by
  by_cases q : 6 ≤ L
  · rw [show (6 : Int32) = nI 6 from rfl, pk_sub q, nI_toInt (by omega)]
    omega
  · rcases (show L = 0 ∨ L = 1 ∨ L = 2 ∨ L = 3 ∨ L = 4 ∨ L = 5 by omega) with rfl | rfl | rfl | rfl | rfl | rfl <;> decide
set_option maxHeartbeats 4000000 in
set_option maxRecDepth 100000 in
theorem law_loop {p : Program} {e : Env} {s : State} {m : MethodId} {below : List Frame} {meth : Method} {c : Code} (l : Launch) (hlt : l.stackTraces = false) {b L : Nat} {xs : Nat → Int32} (hL : L ≤ 3072) (C0 : lw_At p s m meth c b L xs) {D : va_G} {kI kJ kL : ClassId} {sa1 sa2 x y o : Nat} (K0 : lwK D kI kJ kL sa1 sa2 s) : ∀ (k j : Nat), L < 6 * (j + k) + 6 → ∀ (H : Heap) (locs : List Loc) (ls : Array Slot), lwI D kI kJ kL s x y o H locs → lv_has ls 8 [(4, .int (nI (6 * j))), (0, .ref b), (1, .ref x), (2, .ref y), (3, .ref o)] → 6 * j ≤ 3078 → W p l e room_1 s m #[Value.ref b] below meth c H locs (24 + 5 * j) (4370 + 40 * j) (lw_Z below #[Value.ref b] s) (F0 m 23 ls []) := by
  intro k
  induction k with
  | zero =>
    intro j hj H locs ls hI hl h78
    obtain ⟨hx, hb, hr, hml, hown0, hts0, hX, hbl, hlocks, hgv⟩ := C0
    have hbA : ¬ (fun q : Nat => s.heap.size ≤ q) b := Nat.not_le.mpr hbl
    obtain ⟨a, q, S, N, F, B, n, am, M, G, g, rfl, rfl, h, hF, hP, hD, hS⟩ := hI
    refine lv_iload hx hb dL_law_23 (lv_at hl 0 rfl) ?_
    refine lv_aload_n hx hb dL_law_25 rfl (lv_at hl 1 rfl) ?_
    refine va_slen hx hb hX hbl hbA hS dL_law_26 ?_
    refine lv_bipush (v := 6) hx hb dL_law_27 (by decide) ?_
    refine lv_isub hx hb dL_law_29 ?_
    have key : nI L - 6 < nI (6 * j) := by
      rw [Int32.lt_iff_toInt_lt, nIm6 hL, nI_toInt (by omega)]
      omega
    refine lv_icmp_gt (tgt := 1130) hx hb dL_law_30 (by decide) (fun c1 => ?_) (fun c1 => absurd key c1)
    refine lv_iconst (v := 1) hx hb dL_law_1130 (by decide) ?_
    refine va_forget (fun q hq => hS.2.2 q hq) ?_
    refine W.widen (k := 603072) (n := 7262314) (by omega) (by omega) ?_
    exact lw_ret hx hb hr hlocks dL_law_1131
  | succ k ih =>
    intro j hj H locs ls hI hl h78
    have C1 := C0
    have K1 := K0
    have I1 := hI
    obtain ⟨hx, hb, hr, hml, hown0, hts0, hX, hbl, hlocks, hgv⟩ := C0
    have hbA : ¬ (fun q : Nat => s.heap.size ≤ q) b := Nat.not_le.mpr hbl
    have hS : va_S (fun q : Nat => s.heap.size ≤ q) s.heap H locs := by
      obtain ⟨a, q, S, N, F, B, n, am, M, G, g, -, -, -, -, -, -, hS⟩ := hI
      exact hS
    refine lv_iload hx hb dL_law_23 (lv_at hl 0 rfl) ?_
    refine lv_aload_n hx hb dL_law_25 rfl (lv_at hl 1 rfl) ?_
    refine va_slen hx hb hX hbl hbA hS dL_law_26 ?_
    refine lv_bipush (v := 6) hx hb dL_law_27 (by decide) ?_
    refine lv_isub hx hb dL_law_29 ?_
    refine lv_icmp_gt (tgt := 1130) hx hb dL_law_30 (by decide) (fun c1 => ?_) (fun c1 => ?_)
    · refine lv_iconst (v := 1) hx hb dL_law_1130 (by decide) ?_
      refine va_forget (fun q hq => hS.2.2 q hq) ?_
      refine W.widen (k := 603072) (n := 7262314) (by omega) (by omega) ?_
      exact lw_ret hx hb hr hlocks dL_law_1131
    · have hi : 6 * j + 6 ≤ L := by
        have c2 : ¬ nI L - 6 < nI (6 * j) := c1
        rw [Int32.lt_iff_toInt_lt, nIm6 hL, nI_toInt (by omega)] at c2
        omega
      have cont : ∀ (H : Heap) (locs : List Loc) (ls : Array Slot), lwI D kI kJ kL s x y o H locs → lv_has ls 8 [(4, .int (nI (6 * j))), (0, .ref b), (1, .ref x), (2, .ref y), (3, .ref o)] → W p l e room_1 s m #[Value.ref b] below meth c H locs (24 + 5 * j + 5) (4370 + 40 * j + 40) (lw_Z below #[Value.ref b] s) (F0 m 1124 ls []) := by
        intro H locs ls hI hl
        refine lv_iinc (v := nI (6 * (j + 1))) (lv' := [(4, .int (nI (6 * (j + 1)))), (0, .ref b), (1, .ref x), (2, .ref y), (3, .ref o)]) hx hb dL_law_1124 hl (k := 0) rfl (by rw [show Int32.ofInt 6 = nI 6 by decide, nI_add, Nat.mul_succ]) (by decide) rfl (fun ls hl => ?_)
        refine lv_goto (tgt := 23) hx hb dL_law_1127 (by decide) ?_
        refine W.widen (k := 24 + 5 * (j + 1)) (n := 4370 + 40 * (j + 1)) (by omega) (by omega) ?_
        exact ih (j + 1) (by omega) H locs ls hI hl (by omega)
      have hc : 24 + 5 * j + 5 ≤ 603072 := by omega
      have hs : 4370 + 40 * j + 40 ≤ 7262314 := by omega
      refine lv_aload_n hx hb dL_law_33 rfl (lv_at hl 1 rfl) ?_
      refine lv_iload hx hb dL_law_34 (lv_at hl 0 rfl) ?_
      refine va_sld hx hb hX hbl hbA hS (vp_in_nI (by omega) (by omega)) dL_law_36 ?_
      refine lv_bipush (v := 31) hx hb dL_law_37 (by decide) ?_
      refine lv_iand hx hb dL_law_39 ?_
      obtain ⟨v, hv, ev⟩ := pk_andE (xs (nI (6 * j)).toNatClampNeg) (m := 31) 5 (by decide)
      rw [ev]
      by_cases hv2 : 25 < v
      · refine lv_tableOut (tgt := 1124) hx hb dL_law_40 (Or.inr (by rw [nI_toInt (by omega)]; omega)) (by decide) ?_
        exact W.widen (k := 24 + 5 * j + 5) (n := 4370 + 40 * j + 40) (by omega) (by omega) (cont H locs ls I1 hl)
      rcases (show v = 0 ∨ v = 1 ∨ v = 2 ∨ v = 3 ∨ v = 4 ∨ v = 5 ∨ v = 6 ∨ v = 7 ∨ v = 8 ∨ v = 9 ∨ v = 10 ∨ v = 11 ∨ v = 12 ∨ v = 13 ∨ v = 14 ∨ v = 15 ∨ v = 16 ∨ v = 17 ∨ v = 18 ∨ v = 19 ∨ v = 20 ∨ v = 21 ∨ v = 22 ∨ v = 23 ∨ v = 24 ∨ v = 25 by omega) with rfl | rfl | rfl | rfl | rfl | rfl | rfl | rfl | rfl | rfl | rfl | rfl | rfl | rfl | rfl | rfl | rfl | rfl | rfl | rfl | rfl | rfl | rfl | rfl | rfl | rfl
      · exact lv_tableIn (off := 120) (tgt := 160) hx hb dL_law_40 (by decide) (by decide) (by decide) (by decide) (lwc_0 l hlt hL C1 K1 hi hc hs cont H locs ls I1 hl)
      · exact lv_tableIn (off := 157) (tgt := 197) hx hb dL_law_40 (by decide) (by decide) (by decide) (by decide) (lwc_1 l hlt hL C1 K1 hi hc hs cont H locs ls I1 hl)
      · exact lv_tableIn (off := 194) (tgt := 234) hx hb dL_law_40 (by decide) (by decide) (by decide) (by decide) (lwc_2 l hlt hL C1 K1 hi hc hs cont H locs ls I1 hl)
      · exact lv_tableIn (off := 207) (tgt := 247) hx hb dL_law_40 (by decide) (by decide) (by decide) (by decide) (lwc_3 l hlt hL C1 K1 hi hc hs cont H locs ls I1 hl)
      · exact lv_tableIn (off := 244) (tgt := 284) hx hb dL_law_40 (by decide) (by decide) (by decide) (by decide) (lwc_4 l hlt hL C1 K1 hi hc hs cont H locs ls I1 hl)
      · exact lv_tableIn (off := 269) (tgt := 309) hx hb dL_law_40 (by decide) (by decide) (by decide) (by decide) (lwc_5 l hlt hL C1 K1 hi hc hs cont H locs ls I1 hl)
      · exact lv_tableIn (off := 306) (tgt := 346) hx hb dL_law_40 (by decide) (by decide) (by decide) (by decide) (lwc_6 l hlt hL C1 K1 hi hc hs cont H locs ls I1 hl)
      · exact lv_tableIn (off := 331) (tgt := 371) hx hb dL_law_40 (by decide) (by decide) (by decide) (by decide) (lwc_7 l hlt hL C1 K1 hi hc hs cont H locs ls I1 hl)
      · exact lv_tableIn (off := 368) (tgt := 408) hx hb dL_law_40 (by decide) (by decide) (by decide) (by decide) (lwc_8 l hlt hL C1 K1 hi hc hs cont H locs ls I1 hl)
      · exact lv_tableIn (off := 461) (tgt := 501) hx hb dL_law_40 (by decide) (by decide) (by decide) (by decide) (lwc_9 l hlt hL C1 K1 hi hc hs cont H locs ls I1 hl)
      · exact lv_tableIn (off := 540) (tgt := 580) hx hb dL_law_40 (by decide) (by decide) (by decide) (by decide) (lwc_10 l hlt hL C1 K1 hi hc hs cont H locs ls I1 hl)
      · exact lv_tableIn (off := 601) (tgt := 641) hx hb dL_law_40 (by decide) (by decide) (by decide) (by decide) (lwc_11 l hlt hL C1 K1 hi hc hs cont H locs ls I1 hl)
      · exact lv_tableIn (off := 650) (tgt := 690) hx hb dL_law_40 (by decide) (by decide) (by decide) (by decide) (lwc_12 l hlt hL C1 K1 hi hc hs cont H locs ls I1 hl)
      · exact lv_tableIn (off := 711) (tgt := 751) hx hb dL_law_40 (by decide) (by decide) (by decide) (by decide) (lwc_13 l hlt hL C1 K1 hi hc hs cont H locs ls I1 hl)
      · exact lv_tableIn (off := 748) (tgt := 788) hx hb dL_law_40 (by decide) (by decide) (by decide) (by decide) (lwc_14 l hlt hL C1 K1 hi hc hs cont H locs ls I1 hl)
      · exact lv_tableIn (off := 773) (tgt := 813) hx hb dL_law_40 (by decide) (by decide) (by decide) (by decide) (lwc_15 l hlt hL C1 K1 hi hc hs cont H locs ls I1 hl)
      · exact lv_tableIn (off := 810) (tgt := 850) hx hb dL_law_40 (by decide) (by decide) (by decide) (by decide) (lwc_16 l hlt hL C1 K1 hi hc hs cont H locs ls I1 hl)
      · exact lv_tableIn (off := 835) (tgt := 875) hx hb dL_law_40 (by decide) (by decide) (by decide) (by decide) (lwc_17 l hlt hL C1 K1 hi hc hs cont H locs ls I1 hl)
      · exact lv_tableIn (off := 860) (tgt := 900) hx hb dL_law_40 (by decide) (by decide) (by decide) (by decide) (lwc_18 l hlt hL C1 K1 hi hc hs cont H locs ls I1 hl)
      · exact lv_tableIn (off := 873) (tgt := 913) hx hb dL_law_40 (by decide) (by decide) (by decide) (by decide) (lwc_19 l hlt hL C1 K1 hi hc hs cont H locs ls I1 hl)
      · exact lv_tableIn (off := 922) (tgt := 962) hx hb dL_law_40 (by decide) (by decide) (by decide) (by decide) (lwc_20 l hlt hL C1 K1 hi hc hs cont H locs ls I1 hl)
      · exact lv_tableIn (off := 947) (tgt := 987) hx hb dL_law_40 (by decide) (by decide) (by decide) (by decide) (lwc_21 l hlt hL C1 K1 hi hc hs cont H locs ls I1 hl)
      · exact lv_tableIn (off := 972) (tgt := 1012) hx hb dL_law_40 (by decide) (by decide) (by decide) (by decide) (lwc_22 l hlt hL C1 K1 hi hc hs cont H locs ls I1 hl)
      · exact lv_tableIn (off := 1009) (tgt := 1049) hx hb dL_law_40 (by decide) (by decide) (by decide) (by decide) (lwc_23 l hlt hL C1 K1 hi hc hs cont H locs ls I1 hl)
      · exact lv_tableIn (off := 1046) (tgt := 1086) hx hb dL_law_40 (by decide) (by decide) (by decide) (by decide) (lwc_24 l hlt hL C1 K1 hi hc hs cont H locs ls I1 hl)
      · exact lv_tableIn (off := 1071) (tgt := 1111) hx hb dL_law_40 (by decide) (by decide) (by decide) (by decide) (lwc_25 l hlt hL C1 K1 hi hc hs cont H locs ls I1 hl)
