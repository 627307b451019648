section Ops3
variable {n B : Nat} {S : Nat → Nat → Int32} {N : Nat → Nat → Nat → Int32} {M : Nat → Nat → Int32} {G : Nat → Int64}
theorem xLn_iff (h : Rl n B S N M G) {j : Int32} : xLn S j ↔ ∃ u : Nat, u < B ∧ j = nI u := by
  have hB := h.1.2.1
  unfold xLn
  rw [h.1.2.2.2.2.1]
  constructor
  · intro ⟨h1, h2⟩
    rcases pk_ix j (n := B) (by omega) with q | q | q
    · exact absurd q h1
    · exact absurd q h2
    · exact q
  · rintro ⟨u, hu, rfl⟩
    exact ⟨nI_pos (by omega), fun q => by have := (nI_leI (by omega) (by omega)).mp q; omega⟩
theorem mLn_iff (h : Rl n B S N M G) {j : Int32} : mLn M j ↔ ∃ u : Nat, u < B ∧ j = nI u := by
  have hB := h.1.2.1
  unfold mLn
  rw [mIn_iff, Int32.toInt_toInt64, Int32.toInt_toInt64, h.1.2.2.2.2.2, nIm1 (by omega), show (0 : Int64).toInt = 0 by decide]
  constructor
  · intro ⟨h1, h2⟩
    obtain ⟨u, hu, e⟩ := vp_in_of (vp_in_iff.mpr ⟨h1, by omega⟩ : vp_in j B) (by omega)
    exact ⟨u, hu, e⟩
  · rintro ⟨u, hu, rfl⟩
    rw [nI_toInt (by omega)]
    omega
theorem eL (h : Rl n B S N M G) {j : Int32} : xLn S j ↔ mLn M j := (xLn_iff h).trans (mLn_iff h).symm
theorem loan_at (h : Rl n B S N M G) {j : Int32} (hj : xLn S j) : ∃ u : Nat, u < B ∧ u < 8 ∧ j = nI u ∧ j.toNatClampNeg = u ∧ RlL n u N M := by
  have hB := h.1.2.1
  obtain ⟨u, hu, e⟩ := (xLn_iff h).mp hj
  exact ⟨u, hu, by omega, e, by rw [e]; exact nI_clamp (by omega), h.2.2.2.2.1 u hu⟩
theorem e8 {u i : Nat} (hu : u < 8) (hi : i < 8) : (8 * nI u + nI i).toNatClampNeg = 8 * u + i := by
  rw [show (8 : Int32) = nI 8 from rfl, pk_mul, nI_add, nI_clamp (by omega)]
theorem mto_ne5 {y : Int32} : mto y = -5 ↔ ¬ 0 ≤ y := by
  unfold mto
  by_cases q : 0 ≤ y
  · rw [cif_t q]
    exact ⟨fun z => absurd q (by rw [z]; decide), fun z => absurd q z⟩
  · rw [cif_f q]
    exact ⟨fun _ => q, fun _ => rfl⟩
theorem xld_lo {u w : Nat} (hu : u < 8) (hw : w ≤ 8) (hl : ∀ i, i < w → N u 5 i = mto (M 13 (8 * u + i))) : ∀ k, k ≤ w → xld N u k = mvn M (nI u) k
  | 0, _ => rfl
  | k + 1, hk => by
    rw [xld, mvn, xld_lo hu hw hl k (by omega), hl k (by omega), e8 hu (by omega)]
    by_cases q : 0 ≤ M 13 (8 * u + k)
    · rw [cif_t q, cif_f (fun z => mto_ne5.mp z q)]
    · rw [cif_f q, cif_t (mto_ne5.mpr q), Int32.add_zero]
theorem xld_hi {u w : Nat} (hh : ∀ i, i < 8 → w ≤ i → N u 5 i = -5) : ∀ k, w + k ≤ 8 → xld N u (w + k) = xld N u w
  | 0, _ => rfl
  | k + 1, hk => by
    show cif (N u 5 (w + k) = -5) (xld N u (w + k)) (xld N u (w + k) + 1) = xld N u w
    rw [cif_t (hh _ (by omega) (by omega))]
    exact xld_hi hh k (by omega)
theorem R_told (h : Rl n B S N M G) (j w : Int32) : xs_told S N j w = ms_told M j w := by
  unfold xs_told ms_told
  refine cif_cg (eL h) (fun h1 => ?_) (fun _ => rfl)
  obtain ⟨u, hu, hu8, e, ec, l1, l2, wn, hwn, l3, l4, l5, l6, -⟩ := loan_at h h1
  rw [ec, l1, l2, l3, l4, nI_clamp (by omega), e]
  have hx : xld N u 8 = mvn M (nI u) wn := by
    rw [← xld_lo hu8 hwn (fun i hi => (l5 i hi).2.2.2.1) wn (Nat.le_refl _)]
    have := xld_hi l6 (8 - wn) (by omega)
    rwa [show wn + (8 - wn) = 8 by omega] at this
  rw [hx]
  by_cases q : mIn w.toInt64 0 3
  · rw [cif_t q]
    rw [mIn_iff, Int32.toInt_toInt64, show (0 : Int64).toInt = 0 by decide, show (3 : Int64).toInt = 3 by decide] at q
    rcases (show w.toInt = 0 ∨ w.toInt = 1 ∨ w.toInt = 2 ∨ w.toInt = 3 by omega) with z | z | z | z
    · rw [show w = 0 from Int32.toInt_inj.mp z, if_pos rfl, cif_t rfl]
    · rw [show w = 1 from Int32.toInt_inj.mp z, if_neg (by decide), if_pos rfl, cif_f (by decide), cif_t rfl]
    · rw [show w = 2 from Int32.toInt_inj.mp z, if_neg (by decide), if_neg (by decide), if_pos rfl, cif_f (by decide), cif_f (by decide), cif_t rfl]
    · rw [show w = 3 from Int32.toInt_inj.mp z, if_neg (by decide), if_neg (by decide), if_neg (by decide), if_pos rfl, cif_f (by decide), cif_f (by decide), cif_f (by decide)]
  · rw [cif_f q]
    have hq : ∀ c : Int32, c.toInt = 0 ∨ c.toInt = 1 ∨ c.toInt = 2 ∨ c.toInt = 3 → ¬ w = c := by
      intro c hc z
      refine q ?_
      rw [mIn_iff, Int32.toInt_toInt64, show (0 : Int64).toInt = 0 by decide, show (3 : Int64).toInt = 3 by decide, z]
      omega
    rw [if_neg (hq 0 (by decide)), if_neg (hq 1 (by decide)), if_neg (hq 2 (by decide)), if_neg (hq 3 (by decide))]
theorem R_van (h : Rl n B S N M G) (j i : Int32) : xs_van S N j i = ms_van M j i := by
  unfold xs_van ms_van
  refine cif_cg (eL h) (fun h1 => ?_) (fun _ => rfl)
  obtain ⟨u, hu, hu8, e, ec, l1, l2, wn, hwn, l3, l4, l5, l6, -⟩ := loan_at h h1
  rw [ec, l4]
  by_cases q : mIn i.toInt64 0 (nI wn - 1).toInt64
  · rw [cif_t q]
    obtain ⟨k, hk, ek⟩ := vp_in_of (mIn_in rfl (Nat.le_refl wn) (by omega) q) (by omega)
    rw [cif_t (by rw [ek]; exact (btw_nI (f := k) (lo := 0) (hi := 7) (by omega) (by omega) (by omega)).mpr ⟨by omega, by omega⟩), ek, nI_clamp (by omega), (l5 k hk).2.2.2.1, e, e8 hu8 (by omega)]
  · rw [cif_f q]
    by_cases b : btw i 0 7
    · rw [cif_t b]
      obtain ⟨k, hk, ek⟩ := vp_in_of (btw_in (L := 8) b (by decide) (by decide)) (by omega)
      rw [ek, nI_clamp (by omega)]
      refine l6 k hk (Nat.le_of_not_lt fun z => q ?_)
      rw [mIn_iff, Int32.toInt_toInt64, Int32.toInt_toInt64, nIm1 (by omega), ek, nI_toInt (by omega), show (0 : Int64).toInt = 0 by decide]
      omega
    · rw [cif_f b]
theorem R_cc0 (h : Rl n B S N M G) : ∀ k, k ≤ n → xcc S 0 k = mcn M k
  | 0, _ => rfl
  | k + 1, hk => by
    have hn := h.1.1
    rw [xcc, mcn, R_cc0 h k (by omega), nI_clamp (by omega), (h.2.2.2.1.1 k (by omega)).1]
    exact cif_cg ⟨fun z => z.1, fun z => ⟨z, Or.inl rfl⟩⟩ (fun _ => rfl) (fun _ => by rw [Int32.add_zero])
theorem R_cc1 (h : Rl n B S N M G) : ∀ k, k ≤ n → xcc S 1 k = mcf M k
  | 0, _ => rfl
  | k + 1, hk => by
    have hn := h.1.1
    rw [xcc, mcf, R_cc1 h k (by omega), nI_clamp (by omega), (h.2.2.2.1.1 k (by omega)).1]
    by_cases q : M 0 k = 18
    · have he := (h.2.2.2.1.2.2 k (by omega) q).1
      have hm : mnx M (nI k) = M 4 (10 * k) := by
        unfold mnx
        rw [show (10 : Int32) = nI 10 from rfl, pk_mul, nI_clamp (by omega)]
      rw [cif_t q, he, hm]
      by_cases z : M 4 (10 * k) < 0
      · rw [cif_t z, cif_f (fun y => y.2.elim (fun x => absurd x (by decide)) (fun x => x (mto_neg z))), Int32.add_zero]
      · rw [cif_f z, cif_t ⟨q, Or.inr (fun x => mto_ne5.mp x (Int32.not_lt.mp z))⟩]
    · rw [cif_f q, cif_f (fun y => q y.1), Int32.add_zero]
theorem R_count (h : Rl n B S N M G) (w : Int32) : xs_count S n w = ms_count M n w := by
  unfold xs_count ms_count
  rw [R_cc0 h n (Nat.le_refl _), R_cc1 h n (Nat.le_refl _), h.1.2.2.1, h.1.2.2.2.1, h.1.2.2.2.2.1, h.1.2.2.2.2.2]
  have : cif (btw w 4 8) (S 5 (w - 3).toNatClampNeg) (-2) = cif (mIn w.toInt64 4 8) (M 5 (w - 3).toNatClampNeg) (-2) := cif_cg (btw_mIn (by decide) (by decide)) (fun q => h.2.2.2.2.2 _ (vin_lt (btw_sub q))) (fun _ => rfl)
  rw [this]
/-- what the law's two tests of read ask -/
theorem R_read (h : Rl n B S N M G) {t k i : Int32} {g u : Nat → Int64} {r : Int32} (hp : lrPost S t k i g r u) : (ms_read M G t k i).2 16 0 = (if r = 0 then (ms_read M G t k i).2 16 0 else r) ∧ True := ⟨by
  by_cases q : r = 0
  · rw [if_pos q]
  · rw [if_neg q]
    unfold ms_read
    rcases hp with ⟨rfl, -⟩ | ⟨rfl, h1, h2, h3, -⟩ | ⟨rfl, h1, h2, h3, h4, -⟩
    · exact absurd rfl q
    · have := mrf_rel (T := fun (_ : Unit) (z : Int64 × (Nat → Nat → Int32)) => z.2 16 0 = 1) (a1 := ()) (a2 := ()) (a3 := ()) (b := fun _ => ((0 : Int64), sU M 16 0 1)) (a' := (0, sU M 16 0 1)) h (t := t) (k := k) (lo := 5) (hi := 8) (fun _ _ => rfl) rfl rfl
      rw [cif_t (by unfold mrf; rw [cif_t ((eT h).mp h1), cif_t ((btw_mIn (Int32.toInt_toInt64 5) (Int32.toInt_toInt64 8)).mp h2)]; decide), cif_f (fun z => h3 ((eOf h h1 (btw_w h2 (by decide) (by decide))).mpr z))]
      rfl
    · rw [cif_t (by unfold mrf; rw [cif_t ((eT h).mp h1), cif_t ((btw_mIn (Int32.toInt_toInt64 5) (Int32.toInt_toInt64 8)).mp h2)]; decide), cif_t ((eOf h h1 (btw_w h2 (by decide) (by decide))).mp h3), cif_f (fun z => h4 ((ePl h h1).mpr z))]
      rfl, trivial⟩
end Ops3
