/-! the class's state beside the reference's -/
def tV (n : Nat) (x : Int32) : Prop := x < 0 ∨ ∃ u : Nat, u < n ∧ x = nI u
def rV (n : Nat) (M : Nat → Nat → Int32) (f x : Int32) : Prop := x < 0 ∨ ∃ u : Nat, u < n ∧ x = nI u ∧ fIs (M 0 u) (xpo f)
def RlL (n j : Nat) (N : Nat → Nat → Nat → Int32) (M : Nat → Nat → Int32) : Prop := N j 0 0 = M 8 j ∧ N j 2 0 = M 10 j ∧ ∃ w : Nat, w ≤ 8 ∧ N j 1 0 = nI w ∧ M 9 j = nI w ∧ (∀ i, i < w → N j 3 i = M 11 (8 * j + i) ∧ N j 4 i = M 12 (8 * j + i) ∧ btw (M 12 (8 * j + i)) 0 20 ∧ N j 5 i = mto (M 13 (8 * j + i)) ∧ tV n (M 13 (8 * j + i)) ∧ ∃ b : Nat, b < n ∧ M 11 (8 * j + i) = nI b ∧ M 0 b = 18) ∧ (∀ i, i < 8 → w ≤ i → N j 5 i = -5) ∧ (M 8 j = 0 ∨ M 8 j = 1 ∨ M 8 j = 2 ∨ M 8 j = 3)
/-- what the reference keeps for itself -/
def RlM (M : Nat → Nat → Int32) : Prop := (∀ i, i < 110 → vp_in (M 0 i) 19) ∧ (∀ i, i < 110 → ∃ z : Nat, z ≤ 10 ∧ M 2 i = nI z) ∧ (∀ i, i < 1100 → mV (M 4 i)) ∧ (∀ i, i < 64 → vp_in (M 11 i) 110) ∧ (∀ i, i < 64 → mV (M 13 i)) ∧ (∀ i, i < 8 → ∃ w : Nat, w ≤ 8 ∧ M 9 i = nI w) ∧ (∀ t, mV t → men M 110 t) ∧ M 14 = kF ∧ M 15 = pF
def RlT (n : Nat) (S M : Nat → Nat → Int32) (G : Nat → Int64) : Prop := (∀ t, t < n → S 0 t = M 0 t ∧ S 1 t = M 1 t ∧ S 2 t = M 2 t) ∧ (∀ t, t < n → ∀ i, i < 10 → nI i < M 2 t → (btw (M 0 t) 5 8 → G (10 * t + i) = (S 4 (10 * t + i)).toInt64) ∧ (btw (M 0 t) 9 17 → S 4 (10 * t + i) = mto (M 4 (10 * t + i)) ∧ rV n M (M 0 t) (M 4 (10 * t + i)))) ∧ (∀ t, t < n → M 0 t = 18 → S 3 t = mto (M 4 (10 * t)) ∧ tV n (M 4 (10 * t)))
def Rl (n B : Nat) (S : Nat → Nat → Int32) (N : Nat → Nat → Nat → Int32) (M : Nat → Nat → Int32) (G : Nat → Int64) : Prop := (n ≤ 110 ∧ B ≤ 8 ∧ S 6 0 = nI n ∧ M 6 0 = nI n ∧ S 7 0 = nI B ∧ M 7 0 = nI B) ∧ RlM M ∧ (∀ i, i < 110 → (S 2 i).toInt ≤ 10) ∧ RlT n S M G ∧ (∀ j, j < B → RlL n j N M) ∧ (∀ k, k < 6 → S 5 k = M 5 k)
theorem Rl.f0 {n B : Nat} {S : Nat → Nat → Int32} {N : Nat → Nat → Nat → Int32} {M : Nat → Nat → Int32} {G : Nat → Int64} (h : Rl n B S N M G) (v : Int32) : Rl n B S N (sU M 16 0 v) G := by
  obtain ⟨h1, ⟨m1, m2, m3, m4, m5, m6, m7, m8, m9⟩, h3, h4, h5, h6⟩ := h
  exact ⟨h1, ⟨m1, m2, m3, m4, m5, m6, men_oth (by decide) (by decide) m7, m8, m9⟩, h3, h4, h5, h6⟩
theorem Rl.fd {n B : Nat} {S : Nat → Nat → Int32} {N : Nat → Nat → Nat → Int32} {M : Nat → Nat → Int32} {G : Nat → Int64} (h : Rl n B S N M G) (f : Int32) (hf : vp_in f 6) : Rl n B (xfd S f) N (xfd M f) G := by
  obtain ⟨h1, ⟨m1, m2, m3, m4, m5, m6, m7, m8, m9⟩, h3, h4, h5, h6⟩ := h
  refine ⟨h1, ⟨m1, m2, m3, m4, m5, m6, men_oth (by decide) (by decide) m7, m8, m9⟩, h3, h4, h5, fun k hk => ?_⟩
  show upd (S 5) f.toNatClampNeg (S 5 f.toNatClampNeg + 1) k = upd (M 5) f.toNatClampNeg (M 5 f.toNatClampNeg + 1) k
  unfold upd
  by_cases e : k = f.toNatClampNeg
  · rw [if_pos e, if_pos e, h6 _ (vin_lt hf)]
  · rw [if_neg e, if_neg e, h6 k hk]
theorem btw_iff {x lo hi : Int32} : btw x lo hi ↔ lo.toInt ≤ x.toInt ∧ x.toInt ≤ hi.toInt := by
  unfold btw
  rw [Int32.lt_iff_toInt_lt, Int32.lt_iff_toInt_lt]
  omega
theorem btw_mIn {x lo hi : Int32} {lo' hi' : Int64} (h1 : lo'.toInt = lo.toInt) (h2 : hi'.toInt = hi.toInt) : btw x lo hi ↔ mIn x.toInt64 lo' hi' := by
  rw [btw_iff, mIn_iff, Int32.toInt_toInt64, h1, h2]
theorem xT_iff {S : Nat → Nat → Int32} {n : Nat} (hS : S 6 0 = nI n) (hn : n ≤ 110) {t : Int32} : xT S t ↔ ∃ u : Nat, u < n ∧ t = nI u := by
  unfold xT
  rw [hS]
  constructor
  · intro ⟨h1, h2⟩
    rcases pk_ix t (n := n) (by omega) with h | h | h
    · exact absurd h h1
    · exact absurd h h2
    · exact h
  · rintro ⟨u, hu, rfl⟩
    exact ⟨nI_pos (by omega), fun h => by have := (nI_leI (by omega) (by omega)).mp h; omega⟩
theorem mT_iff {M : Nat → Nat → Int32} {n : Nat} (hM : M 6 0 = nI n) (hn : n ≤ 110) {t : Int32} : mT M t ↔ ∃ u : Nat, u < n ∧ t = nI u := by
  unfold mT
  rw [mIn_iff, Int32.toInt_toInt64, Int32.toInt_toInt64, hM, nIm1 (by omega), show (0 : Int64).toInt = 0 by decide]
  constructor
  · intro ⟨h1, h2⟩
    obtain ⟨j, hj, e⟩ := vp_in_of (vp_in_iff.mpr ⟨h1, by omega⟩ : vp_in t n) (by omega)
    exact ⟨j, hj, e⟩
  · rintro ⟨u, hu, rfl⟩
    rw [nI_toInt (by omega)]
    omega
theorem eT {n B : Nat} {S : Nat → Nat → Int32} {N : Nat → Nat → Nat → Int32} {M : Nat → Nat → Int32} {G : Nat → Int64} (h : Rl n B S N M G) {t : Int32} : xT S t ↔ mT M t := (xT_iff h.1.2.2.1 h.1.1).trans (mT_iff h.1.2.2.2.1 h.1.1).symm
def fIsB (f k : Int32) : Bool := k == f || k == 20 || ((f == 1 || f == 3) && k == 0) || (f == 2 && (k == 0 || k == 1 || k == 19)) || (f == 4 && k == 19) || ((f == 11 || f == 13) && k == 10) || (f == 12 && (k == 10 || k == 11 || k == 14))
theorem fIsB_iff {f k : Int32} : fIs f k ↔ fIsB f k = true := by
  simp only [fIs, fIsB, Bool.or_eq_true, Bool.and_eq_true, beq_iff_eq, or_assoc]
theorem fIs_kB : ∀ f : Nat, f < 19 → ∀ k : Nat, k < 21 → fIsB (nI f) (nI k) = (nI k == 20 || (kF f >>> (nI k &&& 31)) &&& 1 == 1) := by decide +kernel
theorem fIs_k (f : Nat) (hf : f < 19) (k : Nat) (hk : k < 21) : fIs (nI f) (nI k) ↔ (nI k = 20 ∨ (kF f >>> (nI k &&& 31)) &&& 1 = 1) := by
  rw [fIsB_iff, fIs_kB f hf k hk, Bool.or_eq_true, beq_iff_eq, beq_iff_eq]
theorem eOf {n B : Nat} {S : Nat → Nat → Int32} {N : Nat → Nat → Nat → Int32} {M : Nat → Nat → Int32} {G : Nat → Int64} (h : Rl n B S N M G) {t k : Int32} (ht : xT S t) (hk : btw k 0 20) : xOf S t k ↔ mOf M t k := by
  obtain ⟨⟨hn, hB, s6, m6, s7, m7⟩, ⟨m0, -, -, -, -, -, -, m14, -⟩, -, ⟨h4, -⟩, -⟩ := h
  obtain ⟨u, hu, e⟩ := (xT_iff s6 hn).mp ht
  have hcl : t.toNatClampNeg = u := by rw [e]; exact nI_clamp (by omega)
  obtain ⟨f, hf, ef⟩ := vp_in_of (m0 u (by omega)) (by omega)
  obtain ⟨j, hj, ek⟩ := vp_in_of (btw_in (L := 21) hk (by decide) (by decide)) (by omega)
  unfold xOf mOf
  rw [hcl, (h4 u hu).1, ef, ek, m14, nI_clamp (show f < 2 ^ 31 by omega)]
  exact ⟨fun q => (fIs_k f hf j hj).mp q.2, fun q => ⟨ht, (fIs_k f hf j hj).mpr q⟩⟩
