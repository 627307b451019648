/-! each call beside the reference's: the calls that only read, or count a finding -/
theorem cif_rel {α β : Type} {T : α → β → Prop} {P Q : Prop} {a b : α} {a' b' : β} (h : P ↔ Q) (ha : P → T a a') (hb : ¬ P → T b b') : T (cif P a b) (cif Q a' b') := by
  by_cases p : P
  · rw [cif_t p, cif_t (h.mp p)]; exact ha p
  · rw [cif_f p, cif_f (fun q => p (h.mpr q))]; exact hb p
theorem cif_cg {α : Type} {P Q : Prop} {a b a' b' : α} (h : P ↔ Q) (ha : P → a = a') (hb : ¬ P → b = b') : cif P a b = cif Q a' b' := cif_rel (T := fun x y => x = y) h ha hb
section Ops
variable {n B : Nat} {S : Nat → Nat → Int32} {N : Nat → Nat → Nat → Int32} {M : Nat → Nat → Int32} {G : Nat → Int64}
theorem thing_at (h : Rl n B S N M G) {t : Int32} (ht : xT S t) : ∃ u : Nat, u < n ∧ u < 110 ∧ t = nI u ∧ t.toNatClampNeg = u ∧ S 0 u = M 0 u ∧ S 1 u = M 1 u ∧ S 2 u = M 2 u := by
  obtain ⟨u, hu, e⟩ := (xT_iff h.1.2.2.1 h.1.1).mp ht
  have hn := h.1.1
  obtain ⟨a1, a2, a3⟩ := h.2.2.2.1.1 u hu
  exact ⟨u, hu, by omega, e, by rw [e]; exact nI_clamp (by omega), a1, a2, a3⟩
theorem nI_xT (h : Rl n B S N M G) {u : Nat} (hu : u < n) : xT S (nI u) := (xT_iff h.1.2.2.1 h.1.1).mpr ⟨u, hu, rfl⟩
theorem eK (h : Rl n B S N M G) {t : Int32} : xK S t ↔ mK M t := by
  unfold xK mK
  constructor
  · intro ⟨h1, h2⟩
    obtain ⟨u, hu, -, e, ec, a1, -⟩ := thing_at h h1
    exact ⟨(eT h).mp h1, by rw [ec, ← a1, ← ec]; exact h2⟩
  · intro ⟨h1, h2⟩
    have h1 := (eT h).mpr h1
    obtain ⟨u, hu, -, e, ec, a1, -⟩ := thing_at h h1
    exact ⟨h1, by rw [ec, a1, ← ec]; exact h2⟩
theorem ePl (h : Rl n B S N M G) {t i : Int32} (ht : xT S t) : xPl S t i ↔ mPl M t i := by
  obtain ⟨u, hu, hu1, e, ec, a1, a2, a3⟩ := thing_at h ht
  obtain ⟨z, hz, ez⟩ := h.2.1.2.1 u hu1
  unfold xPl mPl
  rw [ec, a3, ez, mIn_iff, Int32.toInt_toInt64, Int32.toInt_toInt64, nIm1 (by omega), Int32.lt_iff_toInt_lt, Int32.le_iff_toInt_le, nI_toInt (by omega), Int32.toInt_zero, show (0 : Int64).toInt = 0 by decide]
  omega
theorem btw_w {k lo hi : Int32} (h : btw k lo hi) (h0 : 0 ≤ lo.toInt) (h1 : hi.toInt ≤ 20) : btw k 0 20 := by
  rw [btw_iff] at h ⊢
  rw [show (0 : Int32).toInt = 0 by decide, show (20 : Int32).toInt = 20 by decide]
  omega
theorem b1 : vp_in (1 : Int32) 6 := by unfold vp_in; decide
theorem b2 : vp_in (2 : Int32) 6 := by unfold vp_in; decide
theorem b3 : vp_in (3 : Int32) 6 := by unfold vp_in; decide
theorem b4 : vp_in (4 : Int32) 6 := by unfold vp_in; decide
theorem b5 : vp_in (5 : Int32) 6 := by unfold vp_in; decide
/-- the same answer, and the states still beside each other -/
def RT (n B : Nat) (N : Nat → Nat → Nat → Int32) (G : Nat → Int64) (x y : Int32 × (Nat → Nat → Int32)) : Prop := x.1 = y.1 ∧ Rl n B x.2 N y.2 G
theorem R_is (h : Rl n B S N M G) (t k : Int32) : xs_is S t k = ms_is M t k := by
  unfold xs_is ms_is
  exact cif_cg (eT h) (fun h1 => cif_cg (btw_mIn (by decide) (by decide)) (fun h2 => cif_cg (eOf h h1 h2) (fun _ => rfl) (fun _ => rfl)) (fun _ => rfl)) (fun _ => rfl)
theorem R_kn (h : Rl n B S N M G) {t : Int32} (ht : xT S t) : ∀ j, j ≤ 20 → xkn S t j = mkn M t j
  | 0, _ => rfl
  | j + 1, hj => by
    rw [xkn, mkn, R_kn h ht j (by omega)]
    refine cif_cg (eOf h ht ?_) (fun _ => rfl) (fun _ => by rw [Int32.add_zero])
    rw [btw_iff, nI_toInt (by omega), show (0 : Int32).toInt = 0 by decide, show (20 : Int32).toInt = 20 by decide]
    omega
theorem R_kinds (h : Rl n B S N M G) (t : Int32) : xs_kinds S t = ms_kinds M t := by
  unfold xs_kinds ms_kinds
  exact cif_cg (eT h) (fun h1 => R_kn h h1 20 (Nat.le_refl _)) (fun _ => rfl)
theorem R_wo (h : Rl n B S N M G) {t : Int32} (ht : xT S t) : xwo (S 0 t.toNatClampNeg) (S 1 t.toNatClampNeg) = mwo M t := by
  obtain ⟨u, hu, hu1, e, ec, a1, a2, a3⟩ := thing_at h ht
  unfold xwo mwo
  rw [ec, a1, a2]
  by_cases h1 : M 0 u = 1
  · rw [if_pos h1, cif_t h1, Int32.mul_comm]
  · rw [if_neg h1, cif_f h1]
    by_cases h2 : M 0 u = 2
    · rw [if_pos h2, cif_t h2, Int32.mul_comm]
    · rw [if_neg h2, cif_f h2]
theorem R_worth (h : Rl n B S N M G) (t k : Int32) : RT n B N G (xs_worth S t k) (ms_worth M t k) := by
  unfold xs_worth ms_worth
  exact cif_rel (T := RT n B N G) (eT h) (fun h1 => cif_rel (T := RT n B N G) (btw_mIn (by decide) (by decide)) (fun h2 => cif_rel (T := RT n B N G) (eOf h h1 (btw_w h2 (by decide) (by decide))) (fun _ => ⟨R_wo h h1, h⟩) (fun _ => ⟨rfl, h.fd 1 b1⟩)) (fun _ => ⟨rfl, h⟩)) (fun _ => ⟨rfl, h⟩)
theorem R_date (h : Rl n B S N M G) (t : Int32) : RT n B N G (xs_date S t) (ms_date M t) := by
  unfold xs_date ms_date
  refine cif_rel (T := RT n B N G) (eT h) (fun h1 => cif_rel (T := RT n B N G) (eOf h h1 (by unfold btw; decide)) (fun _ => ?_) (fun _ => ⟨rfl, h.fd 1 b1⟩)) (fun _ => ⟨rfl, h⟩)
  obtain ⟨u, hu, hu1, e, ec, a1, a2, a3⟩ := thing_at h h1
  rw [ec, a1, a2]
  exact cif_rel (T := RT n B N G) Iff.rfl (fun _ => ⟨rfl, h⟩) (fun _ => ⟨rfl, h⟩)
/-- the reference's refusal, as the class tests it -/
theorem mrf_rel {α β : Type} {T : α → β → Prop} {a1 a2 a3 : α} {b : Int32 → β} {a' : β} (h : Rl n B S N M G) {t k lo hi : Int32} (h1 : xT S t → btw k lo hi → T a1 a') (h2 : T a2 (b (-2))) (h3 : T a3 (b (-1))) : T (cif (xT S t) (cif (btw k lo hi) a1 a2) a3) (cif (0 ≤ mrf M t k lo hi) a' (b (mrf M t k lo hi))) := by
  unfold mrf
  by_cases p : xT S t
  · rw [cif_t p, cif_t ((eT h).mp p)]
    have hb : btw k lo hi ↔ mIn k.toInt64 lo.toInt64 hi.toInt64 := btw_mIn (Int32.toInt_toInt64 lo) (Int32.toInt_toInt64 hi)
    by_cases q : btw k lo hi
    · rw [cif_t q, cif_t (hb.mp q), cif_t (by decide)]
      exact h1 p q
    · rw [cif_f q, cif_f (fun z => q (hb.mpr z)), cif_f (by decide)]
      exact h2
  · rw [cif_f p, cif_f (fun z => p ((eT h).mpr z)), cif_f (by decide)]
    exact h3
theorem R_size (h : Rl n B S N M G) (t k : Int32) : RT n B N G (xs_size S t k) (ms_size M t k) := by
  unfold xs_size ms_size
  refine mrf_rel (T := RT n B N G) (b := fun z => (z, M)) h (fun h1 h2 => cif_rel (T := RT n B N G) (eOf h h1 (btw_w h2 (by decide) (by decide))) (fun _ => ?_) (fun _ => ⟨rfl, h.fd 1 b1⟩)) ⟨rfl, h⟩ ⟨rfl, h⟩
  obtain ⟨u, hu, hu1, e, ec, a1, a2, a3⟩ := thing_at h h1
  rw [ec, a3]
  exact ⟨rfl, h⟩
/-- the place of a row -/
theorem place_at (h : Rl n B S N M G) {t i : Int32} (ht : xT S t) (hp : xPl S t i) : ∃ u j : Nat, u < n ∧ u < 110 ∧ j < 10 ∧ t = nI u ∧ i = nI j ∧ t.toNatClampNeg = u ∧ (t * 10 + i).toNatClampNeg = 10 * u + j ∧ (10 * t + i).toNatClampNeg = 10 * u + j ∧ nI j < M 2 u := by
  obtain ⟨u, hu, hu1, e, ec, a1, a2, a3⟩ := thing_at h ht
  obtain ⟨z, hz, ez⟩ := h.2.1.2.1 u hu1
  unfold xPl at hp
  rw [ec, a3, ez] at hp
  rcases pk_ix i (n := z) (by omega) with q | q | ⟨j, hj, ej⟩
  · exact absurd q hp.1
  · exact absurd q hp.2
  · refine ⟨u, j, hu, hu1, by omega, e, ej, ec, ?_, ?_, ?_⟩
    · rw [e, ej, show (10 : Int32) = nI 10 from rfl, pk_mul, nI_add, nI_clamp (by omega)]
      omega
    · rw [e, ej, show (10 : Int32) = nI 10 from rfl, pk_mul, nI_add, nI_clamp (by omega)]
    · rw [ez]
      exact (nI_ltI (by omega) (by omega)).mpr hj
theorem rowB : ∀ f : Nat, f < 19 → ∀ k : Nat, k < 21 → ((fIsB (nI f) (nI k) && decide (5 ≤ k) && decide (k ≤ 8)) = true → f = k) ∧ ((fIsB (nI f) (nI k) && decide (9 ≤ k) && decide (k ≤ 17)) = true → 9 ≤ f ∧ f ≤ 17) ∧ ((fIsB (nI f) (nI k) && decide (k = 9)) = true → f = 9) := by decide +kernel
/-- the form of what is of a kind -/
theorem form_of (h : Rl n B S N M G) {u : Nat} (hu : u < n) {k : Int32} (ho : fIs (M 0 u) k) (hk : btw k 0 20) : ∃ f j : Nat, f < 19 ∧ j < 21 ∧ M 0 u = nI f ∧ k = nI j ∧ fIsB (nI f) (nI j) = true := by
  have hn := h.1.1
  obtain ⟨f, hf, ef⟩ := vp_in_of (h.2.1.1 u (by omega)) (by omega)
  obtain ⟨j, hj, ek⟩ := vp_in_of (btw_in (L := 21) hk (by decide) (by decide)) (by omega)
  rw [ef, ek] at ho
  exact ⟨f, j, hf, hj, ef, ek, fIsB_iff.mp ho⟩
theorem btw_nI {f lo hi : Nat} (hf : f < 2 ^ 31) (hl : lo < 2 ^ 31) (hh : hi < 2 ^ 31) : btw (nI f) (nI lo) (nI hi) ↔ lo ≤ f ∧ f ≤ hi := by
  rw [btw_iff, nI_toInt hf, nI_toInt hl, nI_toInt hh]
  omega
theorem row_form (h : Rl n B S N M G) {u : Nat} (hu : u < n) {k : Int32} (ho : fIs (M 0 u) k) (hk : btw k 9 17) : btw (M 0 u) 9 17 := by
  obtain ⟨f, j, hf, hj, ef, ek, hb⟩ := form_of h hu ho (btw_w hk (by decide) (by decide))
  rw [ek] at hk
  have hk := (btw_nI (f := j) (lo := 9) (hi := 17) (by omega) (by omega) (by omega)).mp hk
  have := (rowB f hf j hj).2.1 (by rw [hb, decide_eq_true hk.1, decide_eq_true hk.2]; rfl)
  rw [ef]
  exact (btw_nI (f := f) (lo := 9) (hi := 17) (by omega) (by omega) (by omega)).mpr this
theorem num_form (h : Rl n B S N M G) {u : Nat} (hu : u < n) {k : Int32} (ho : fIs (M 0 u) k) (hk : btw k 5 8) : M 0 u = k ∧ btw (M 0 u) 5 8 := by
  obtain ⟨f, j, hf, hj, ef, ek, hb⟩ := form_of h hu ho (btw_w hk (by decide) (by decide))
  rw [ek] at hk
  have hk2 := (btw_nI (f := j) (lo := 5) (hi := 8) (by omega) (by omega) (by omega)).mp hk
  have e := (rowB f hf j hj).1 (by rw [hb, decide_eq_true hk2.1, decide_eq_true hk2.2]; rfl)
  rw [ef, ek, e]
  exact ⟨rfl, hk⟩
theorem of_fIs (h : Rl n B S N M G) {t k : Int32} {u : Nat} (ec : t.toNatClampNeg = u) (hu : u < n) (ho : xOf S t k) : fIs (M 0 u) k := by
  have := ho.2
  rw [ec, (h.2.2.2.1.1 u hu).1] at this
  exact this
theorem R_at (h : Rl n B S N M G) (t k i : Int32) : RT n B N G (xs_at S t k i) (ms_at M t k i) := by
  unfold xs_at ms_at
  refine mrf_rel (T := RT n B N G) (b := fun z => (z, M)) h (fun h1 h2 => cif_rel (T := RT n B N G) (eOf h h1 (btw_w h2 (by decide) (by decide))) (fun h3 => cif_rel (T := RT n B N G) (ePl h h1) (fun h4 => ?_) (fun _ => ⟨rfl, h.fd 3 b3⟩)) (fun _ => ⟨rfl, h.fd 1 b1⟩)) ⟨rfl, h⟩ ⟨rfl, h⟩
  obtain ⟨u, j, hu, hu1, hj, e, ej, ec, e1, e2, hs⟩ := place_at h h1 h4
  rw [e1, e2, ((h.2.2.2.1.2.1 u hu j hj hs).2 (row_form h hu (of_fIs h ec hu h3) h2)).1]
  exact ⟨rfl, h⟩
end Ops
