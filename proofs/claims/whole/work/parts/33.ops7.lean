section Ops7
variable {n B : Nat} {S : Nat → Nat → Int32} {N : Nat → Nat → Nat → Int32} {M : Nat → Nat → Int32} {G : Nat → Int64}
/-- the same answer, and the states still beside each other, loans and all -/
def RN (n B : Nat) (G : Nat → Int64) (x : Int32 × (Nat → Nat → Int32) × (Nat → Nat → Nat → Int32)) (y : Int32 × (Nat → Nat → Int32)) : Prop := x.1 = y.1 ∧ Rl n B x.2.1 x.2.2 y.2 G
theorem nU_ne {j k i j' : Nat} {v : Int32} (h : ¬ j' = j) : nU N j k i v j' = N j' := by simp [nU, h]
theorem nU_same {j k i : Nat} {v : Int32} : nU N j k i v j k = upd (N j k) i v := by simp [nU]
/-- a loan's state -/
theorem R_state (h : Rl n B S N M G) {j : Nat} {v : Int32} (hv : v = 0 ∨ v = 1 ∨ v = 2 ∨ v = 3) : Rl n B S (nU N j 0 0 v) (sU M 8 j v) G := by
  obtain ⟨h1, ⟨m1, m2, m3, m4, m5, m6, m7, m8, m9⟩, h3, ht, h5, h6⟩ := h
  refine ⟨h1, ⟨m1, m2, m3, m4, m5, m6, men_oth (by decide) (by decide) m7, m8, m9⟩, h3, ht, fun i hi => ?_, h6⟩
  obtain ⟨l1, l2, w, hw, l3, l4, l5, l6, l7⟩ := h5 i hi
  by_cases e : i = j
  · subst e
    refine ⟨?_, ?_, w, hw, ?_, l4, fun c hc => ?_, fun c hc hc2 => ?_, ?_⟩
    · show nU N i 0 0 v i 0 0 = upd (M 8) i v i
      rw [nU_s, upd_s]
    · rw [nU_o (by decide)]; exact l2
    · rw [nU_o (by decide)]; exact l3
    · rw [nU_o (by decide), nU_o (by decide), nU_o (by decide)]; exact l5 c hc
    · rw [nU_o (by decide)]; exact l6 c hc hc2
    · show upd (M 8) i v i = 0 ∨ upd (M 8) i v i = 1 ∨ upd (M 8) i v i = 2 ∨ upd (M 8) i v i = 3
      rw [upd_s]; exact hv
  · unfold RlL
    rw [nU_ne e]
    refine ⟨?_, l2, w, hw, l3, l4, l5, l6, ?_⟩
    · show N i 0 0 = upd (M 8) j v i
      rw [upd_n e]; exact l1
    · show upd (M 8) j v i = 0 ∨ upd (M 8) j v i = 1 ∨ upd (M 8) j v i = 2 ∨ upd (M 8) j v i = 3
      rw [upd_n e]; exact l7
/-- where a loan stuck -/
theorem R_stuck (h : Rl n B S N M G) {j : Nat} {v : Int32} : Rl n B S (nU N j 2 0 v) (sU M 10 j v) G := by
  obtain ⟨h1, ⟨m1, m2, m3, m4, m5, m6, m7, m8, m9⟩, h3, ht, h5, h6⟩ := h
  refine ⟨h1, ⟨m1, m2, m3, m4, m5, m6, men_oth (by decide) (by decide) m7, m8, m9⟩, h3, ht, fun i hi => ?_, h6⟩
  obtain ⟨l1, l2, w, hw, l3, l4, l5, l6, l7⟩ := h5 i hi
  by_cases e : i = j
  · subst e
    refine ⟨?_, ?_, w, hw, ?_, l4, fun c hc => ?_, fun c hc hc2 => ?_, l7⟩
    · rw [nU_o (by decide)]; exact l1
    · show nU N i 2 0 v i 2 0 = upd (M 10) i v i
      rw [nU_s, upd_s]
    · rw [nU_o (by decide)]; exact l3
    · rw [nU_o (by decide), nU_o (by decide), nU_o (by decide)]; exact l5 c hc
    · rw [nU_o (by decide)]; exact l6 c hc hc2
  · unfold RlL
    rw [nU_ne e]
    refine ⟨l1, ?_, w, hw, l3, l4, l5, l6, l7⟩
    show N i 2 0 = upd (M 10) j v i
    rw [upd_n e]; exact l2
/-- the van takes a thing, or gives it back -/
theorem R_van5 (h : Rl n B S N M G) {j w0 : Nat} (hj : j < B) (hw0 : nI w0 < M 9 j) (hw8 : w0 < 8) {y : Int32} (hy : tV n y) : Rl n B S (nU N j 5 w0 (mto y)) (sU M 13 (8 * j + w0) y) G := by
  obtain ⟨h1, ⟨m1, m2, m3, m4, m5, m6, m7, m8, m9⟩, h3, ht, h5, h6⟩ := h
  refine ⟨h1, ⟨m1, m2, m3, m4, fun i hi => ?_, m6, men_oth (by decide) (by decide) m7, m8, m9⟩, h3, ht, fun i hi => ?_, h6⟩
  · show mV (upd (M 13) (8 * j + w0) y i)
    by_cases e : i = 8 * j + w0
    · rw [e, upd_s]; exact tV_mV h1.1 hy
    · rw [upd_n e]; exact m5 i hi
  obtain ⟨l1, l2, w, hw, l3, l4, l5, l6, l7⟩ := h5 i hi
  by_cases e : i = j
  · subst e
    refine ⟨?_, ?_, w, hw, ?_, l4, fun c hc => ?_, fun c hc hc2 => ?_, l7⟩
    · rw [nU_o (by decide)]; exact l1
    · rw [nU_o (by decide)]; exact l2
    · rw [nU_o (by decide)]; exact l3
    · rw [nU_o (by decide), nU_o (by decide), nU_same]
      obtain ⟨a1, a2, a3, a4, a5, a6⟩ := l5 c hc
      refine ⟨a1, a2, a3, ?_, ?_, a6⟩
      · show upd (N i 5) w0 (mto y) c = mto (upd (M 13) (8 * i + w0) y (8 * i + c))
        by_cases z : c = w0
        · rw [z, upd_s, upd_s]
        · rw [upd_n z, upd_n (by omega)]; exact a4
      · show tV n (upd (M 13) (8 * i + w0) y (8 * i + c))
        by_cases z : c = w0
        · rw [z, upd_s]; exact hy
        · rw [upd_n (by omega)]; exact a5
    · rw [nU_same]
      rw [l4] at hw0
      have := (nI_ltI (by omega) (by omega)).mp hw0
      rw [upd_n (by omega)]
      exact l6 c hc hc2
  · unfold RlL
    rw [nU_ne e]
    refine ⟨l1, l2, w, hw, l3, l4, fun c hc => ?_, l6, l7⟩
    obtain ⟨a1, a2, a3, a4, a5, a6⟩ := l5 c hc
    refine ⟨a1, a2, a3, ?_, ?_, a6⟩
    · show N i 5 c = mto (upd (M 13) (8 * j + w0) y (8 * i + c))
      rw [upd_n (by omega)]; exact a4
    · show tV n (upd (M 13) (8 * j + w0) y (8 * i + c))
      rw [upd_n (by omega)]; exact a5
theorem xlz8 : ∀ i, i < 8 → xlz 8 i = -5 := by decide +kernel
/-- a new loan -/
theorem R_loan (h : Rl n B S N M G) (hB : B < 8) : (ms_loan M).1 = nI B ∧ Rl n (B + 1) (sU S 7 0 (S 7 0 + 1)) (nnew N B) (ms_loan M).2 G := by
  obtain ⟨⟨hn, _, s6, m6, s7, m7⟩, ⟨p1, p2, p3, p4, p5, p6, p7, p8, p9⟩, h3, ht, h5, h6⟩ := h
  have hne : ¬ M 7 0 = 8 := fun z => by
    rw [m7] at z
    have := (nI_eq (a := B) (b := 8) (by omega) (by omega)).mp z
    omega
  unfold ms_loan
  rw [cif_f hne]
  rw [m7, s7, nI_clamp (show B < 2 ^ 31 by omega)]
  refine ⟨Int32.add_sub_cancel _ _, ⟨hn, by omega, s6, m6, ?_, ?_⟩, ⟨p1, p2, p3, p4, p5, fun i hi => ?_, men_oth (by decide) (by decide) (men_oth (by decide) (by decide) (men_oth (by decide) (by decide) (men_oth (by decide) (by decide) p7))), p8, p9⟩, h3, ht, fun j hj => ?_, h6⟩
  · show upd (S 7) 0 (nI B + 1) 0 = nI (B + 1)
    rw [upd_s, nI_1]
  · show upd (M 7) 0 (nI B + 1) 0 = nI (B + 1)
    rw [upd_s, nI_1]
  · show ∃ w : Nat, w ≤ 8 ∧ upd (M 9) B 0 i = nI w
    by_cases e : i = B
    · rw [e, upd_s]; exact ⟨0, by omega, rfl⟩
    · rw [upd_n e]; exact p6 i hi
  · by_cases e : j = B
    · subst e
      have eN : nnew N j j = (fun k => if k = 2 then (fun _ => -5) else if k = 5 then xlz 8 else fun _ => 0) := by simp [nnew]
      unfold RlL
      rw [eN]
      refine ⟨?_, ?_, 0, by omega, rfl, ?_, fun i hi => absurd hi (Nat.not_lt_zero _), fun i hi _ => xlz8 i hi, Or.inl ?_⟩
      · show (0 : Int32) = upd (M 8) j 0 j
        rw [upd_s]
      · show (-5 : Int32) = upd (M 10) j (-5) j
        rw [upd_s]
      · show upd (M 9) j 0 j = nI 0
        rw [upd_s]; rfl
      · show upd (M 8) j 0 j = 0
        rw [upd_s]
    · have eN : nnew N B j = N j := by simp [nnew, e]
      obtain ⟨l1, l2, w, hw, l3, l4, l5, l6, l7⟩ := h5 j (by omega)
      unfold RlL
      rw [eN]
      refine ⟨?_, ?_, w, hw, l3, ?_, l5, l6, ?_⟩
      · show N j 0 0 = upd (M 8) B 0 j
        rw [upd_n e]; exact l1
      · show N j 2 0 = upd (M 10) B (-5) j
        rw [upd_n e]; exact l2
      · show upd (M 9) B 0 j = nI w
        rw [upd_n e]; exact l4
      · show upd (M 8) B 0 j = 0 ∨ upd (M 8) B 0 j = 1 ∨ upd (M 8) B 0 j = 2 ∨ upd (M 8) B 0 j = 3
        rw [upd_n e]; exact l7
theorem R_loanN (h : Rl n B S N M G) (hB : ¬ B < 8) : ms_loan M = (-4, M) := by
  have := h.1.2.1
  unfold ms_loan
  rw [cif_t]
  rw [h.1.2.2.2.2.2, show B = 8 by omega]
  rfl
theorem R_want (h : Rl n B S N M G) (l b k : Int32) : (xs_want S N l b k).1 = (ms_want M l b k).1 ∧ Rl n B S (xs_want S N l b k).2 (ms_want M l b k).2 G := by
  have hn := h.1.1
  refine cif_rel (T := fun (x : Int32 × (Nat → Nat → Nat → Int32)) (y : Int32 × (Nat → Nat → Int32)) => x.1 = y.1 ∧ Rl n B S x.2 y.2 G) (eL h) (fun h1 => cif_rel (T := fun (x : Int32 × (Nat → Nat → Nat → Int32)) (y : Int32 × (Nat → Nat → Int32)) => x.1 = y.1 ∧ Rl n B S x.2 y.2 G) (eK h) (fun h2 => cif_rel (T := fun (x : Int32 × (Nat → Nat → Nat → Int32)) (y : Int32 × (Nat → Nat → Int32)) => x.1 = y.1 ∧ Rl n B S x.2 y.2 G) (btw_mIn (by decide) (by decide)) (fun h3 => ?_) (fun _ => ⟨rfl, h⟩)) (fun _ => ⟨rfl, h⟩)) (fun _ => ⟨rfl, h⟩)
  obtain ⟨j, hj, hj8, e, ec, l1, l2, w, hw, l3, l4, l5, l6, l7⟩ := loan_at h h1
  obtain ⟨u, hu, hu1, eb, ebc, h18, -, -, -⟩ := case_at h h2
  rw [ec, l1, l3, l4, nI_clamp (show w < 2 ^ 31 by omega)]
  refine cif_rel (T := fun (x : Int32 × (Nat → Nat → Nat → Int32)) (y : Int32 × (Nat → Nat → Int32)) => x.1 = y.1 ∧ Rl n B S x.2 y.2 G) Iff.rfl (fun h4 => ?_) (fun _ => ⟨rfl, h⟩)
  by_cases q : w < 8
  · rw [cif_t (show nI w < 8 from nI_lt (b := 8) q (by omega)), cif_f (fun z => by have := (nI_eq (a := w) (b := 8) (by omega) (by omega)).mp z; omega), e, e8 hj8 q]
    refine ⟨rfl, ?_⟩
    show Rl n B S (nU (nU (nU N j 3 w b) j 4 w k) j 1 0 (nI w + 1)) (sU (sU (sU (sU M 11 (8 * j + w) b) 12 (8 * j + w) k) 13 (8 * j + w) (-1)) 9 j (nI w + 1)) G
    obtain ⟨g1, ⟨m1, m2, m3, m4, m5, m6, m7, m8, m9⟩, g3, gt, g5, g6⟩ := h
    refine ⟨g1, ⟨m1, m2, m3, fun i hi => ?_, fun i hi => ?_, fun i hi => ?_, men_oth (by decide) (by decide) (men_oth (by decide) (by decide) (men_oth (by decide) (by decide) (men_oth (by decide) (by decide) m7))), m8, m9⟩, g3, gt, fun i hi => ?_, g6⟩
    · show vp_in (upd (M 11) (8 * j + w) b i) 110
      by_cases z : i = 8 * j + w
      · rw [z, upd_s, eb]; exact vp_in_nI (by omega) (by omega)
      · rw [upd_n z]; exact m4 i hi
    · show mV (upd (M 13) (8 * j + w) (-1) i)
      by_cases z : i = 8 * j + w
      · rw [z, upd_s]; exact Or.inl (by decide)
      · rw [upd_n z]; exact m5 i hi
    · show ∃ w' : Nat, w' ≤ 8 ∧ upd (M 9) j (nI w + 1) i = nI w'
      by_cases z : i = j
      · rw [z, upd_s, nI_1]; exact ⟨w + 1, by omega, rfl⟩
      · rw [upd_n z]; exact m6 i hi
    · by_cases z : i = j
      · subst z
        refine ⟨?_, ?_, w + 1, by omega, ?_, ?_, fun c hc => ?_, fun c hc hc2 => ?_, l7⟩
        · rw [nU_o (by decide), nU_o (by decide), nU_o (by decide)]; exact l1
        · rw [nU_o (by decide), nU_o (by decide), nU_o (by decide)]; exact l2
        · rw [nU_s, nI_1]
        · show upd (M 9) i (nI w + 1) i = nI (w + 1)
          rw [upd_s, nI_1]
        · rw [nU_o (by decide), nU_o (by decide), nU_same, nU_o (by decide), nU_same, nU_o (by decide), nU_o (by decide), nU_o (by decide), nU_o (by decide)]
          show upd (N i 3) w b c = upd (M 11) (8 * i + w) b (8 * i + c) ∧ upd (N i 4) w k c = upd (M 12) (8 * i + w) k (8 * i + c) ∧ btw (upd (M 12) (8 * i + w) k (8 * i + c)) 0 20 ∧ N i 5 c = mto (upd (M 13) (8 * i + w) (-1) (8 * i + c)) ∧ tV n (upd (M 13) (8 * i + w) (-1) (8 * i + c)) ∧ ∃ b' : Nat, b' < n ∧ upd (M 11) (8 * i + w) b (8 * i + c) = nI b' ∧ M 0 b' = 18
          by_cases y : c = w
          · rw [y, upd_s, upd_s, upd_s, upd_s, upd_s, l6 w (by omega) (Nat.le_refl _), mto_m1]
            exact ⟨rfl, rfl, h3, rfl, m1V, u, hu, eb, h18⟩
          · rw [upd_n y, upd_n y, upd_n (show ¬ 8 * i + c = 8 * i + w by omega), upd_n (show ¬ 8 * i + c = 8 * i + w by omega), upd_n (show ¬ 8 * i + c = 8 * i + w by omega)]
            exact l5 c (by omega)
        · rw [nU_o (by decide), nU_o (by decide), nU_o (by decide)]
          exact l6 c hc (by omega)
      · obtain ⟨k1, k2, w', hw', k3, k4, k5, k6, k7⟩ := g5 i hi
        unfold RlL
        rw [nU_ne z, nU_ne z, nU_ne z]
        refine ⟨k1, k2, w', hw', k3, ?_, fun c hc => ?_, k6, k7⟩
        · show upd (M 9) j (nI w + 1) i = nI w'
          rw [upd_n z]; exact k4
        · show N i 3 c = upd (M 11) (8 * j + w) b (8 * i + c) ∧ N i 4 c = upd (M 12) (8 * j + w) k (8 * i + c) ∧ btw (upd (M 12) (8 * j + w) k (8 * i + c)) 0 20 ∧ N i 5 c = mto (upd (M 13) (8 * j + w) (-1) (8 * i + c)) ∧ tV n (upd (M 13) (8 * j + w) (-1) (8 * i + c)) ∧ ∃ b' : Nat, b' < n ∧ upd (M 11) (8 * j + w) b (8 * i + c) = nI b' ∧ M 0 b' = 18
          have hne : ¬ 8 * i + c = 8 * j + w := by omega
          rw [upd_n hne, upd_n hne, upd_n hne]
          exact k5 c hc
  · have e8w : w = 8 := by omega
    rw [cif_f (by rw [e8w]; decide), cif_t (by rw [e8w]; rfl)]
    exact ⟨rfl, h⟩
end Ops7
