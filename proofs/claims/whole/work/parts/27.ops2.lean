section Ops2
variable {n B : Nat} {S : Nat → Nat → Int32} {N : Nat → Nat → Nat → Int32} {M : Nat → Nat → Int32} {G : Nat → Int64}
theorem mto_neg {y : Int32} (h : y < 0) : mto y = -5 := by
  unfold mto
  rw [cif_f (fun q => absurd h (Int32.not_lt.mpr q))]
theorem mto_nI {u : Nat} (h : u < 2 ^ 31) : mto (nI u) = nI u := by
  unfold mto
  rw [cif_t (nI_pos' h)]
theorem not_xT5 : ¬ xT S (-5) := fun h => h.1 (by decide)
theorem ge_nI {u : Nat} (h : u < 2 ^ 31) : 0 ≤ nI u := nI_pos' h
theorem tV_T (h : Rl n B S N M G) {y : Int32} (hy : tV n y) : xT S (mto y) ↔ 0 ≤ y := by
  have hn := h.1.1
  rcases hy with q | ⟨u, hu, rfl⟩
  · rw [mto_neg q]
    exact ⟨fun z => absurd z not_xT5, fun z => absurd q (Int32.not_lt.mpr z)⟩
  · rw [mto_nI (by omega)]
    exact ⟨fun _ => ge_nI (by omega), fun _ => nI_xT h hu⟩
theorem rV_tV {f x : Int32} (h : rV n M f x) : tV n x := by
  rcases h with q | ⟨u, hu, e, -⟩
  · exact Or.inl q
  · exact Or.inr ⟨u, hu, e⟩
theorem tV_eq {y : Int32} (hy : tV n y) (hn : n ≤ 110) (h0 : 0 ≤ y) : mto y = y := by
  rcases hy with q | ⟨u, hu, rfl⟩
  · exact absurd q (Int32.not_lt.mpr h0)
  · exact mto_nI (by omega)
theorem deepB : ∀ f : Nat, f < 19 → (fIsB (nI f) 9 = true → f = 9) ∧ (fIsB (nI f) 15 = true → f = 15) ∧ (fIsB (nI f) 16 = true → f = 16) := by decide +kernel
theorem R_deep2 (h : Rl n B S N M G) {t k i z : Int32} (h1 : xT S t) (hk : k = 9 ∨ k = 15 ∨ k = 16) : RT n B N G (xs_deep2 S t k i z) (ms_deep2 M G t k i z) := by
  have hn := h.1.1
  have hk20 : btw k 9 17 := by rcases hk with rfl | rfl | rfl <;> (unfold btw; decide)
  unfold xs_deep2 ms_deep2
  refine cif_rel (T := RT n B N G) (eOf h h1 (btw_w hk20 (by decide) (by decide))) (fun h3 => cif_rel (T := RT n B N G) (ePl h h1) (fun h4 => ?_) (fun _ => ⟨rfl, h.fd 3 b3⟩)) (fun _ => ⟨rfl, h.fd 1 b1⟩)
  obtain ⟨u, j, hu, hu1, hj, e, ej, ec, e1, e2, hs⟩ := place_at h h1 h4
  have hof := of_fIs h ec hu h3
  obtain ⟨f, hf, ef⟩ := vp_in_of (h.2.1.1 u (by omega)) (by omega)
  obtain ⟨hp, hrv⟩ := (h.2.2.2.1.2.1 u hu j hj hs).2 (row_form h hu hof hk20)
  rw [e1, e2, hp]
  refine cif_rel (T := RT n B N G) (tV_T h (rV_tV hrv)) (fun h5 => ?_) (fun _ => ⟨rfl, h.fd 2 b2⟩)
  have h0 := (tV_T h (rV_tV hrv)).mp h5
  have he := tV_eq (rV_tV hrv) hn h0
  rw [he] at h5 ⊢
  refine cif_rel (T := RT n B N G) (ePl h h5) (fun h6 => ?_) (fun _ => ⟨rfl, h.fd 3 b3⟩)
  obtain ⟨v, j2, hv, hv1, hj2, ev, ej2, ec2, e3, e4, hs2⟩ := place_at h h5 h6
  rw [e3, e4]
  have hfv : fIs (M 0 v) (xpo (M 0 u)) := by
    rcases hrv with q | ⟨v', hv', e', q⟩
    · exact absurd q (Int32.not_lt.mpr h0)
    · have : v' = v := by
        have := e'.symm.trans ev
        exact (nI_eq (by omega) (by omega)).mp this
      rw [this] at q
      exact q
  obtain ⟨q5, q9⟩ := h.2.2.2.1.2.1 v hv j2 hj2 hs2
  rw [ef, fIsB_iff] at hof
  have hd := deepB f hf
  rcases hk with rfl | rfl | rfl
  · have e9 := hd.1 hof
    rw [ef, e9, show xpo (nI 9) = 6 by decide] at hfv
    rw [cif_t rfl, q5 (num_form h hv hfv (by unfold btw; decide)).2, Int32.toInt32_toInt64]
    exact ⟨rfl, h⟩
  · have e9 := hd.2.1 hof
    rw [ef, e9, show xpo (nI 15) = 11 by decide] at hfv
    rw [cif_f (by decide), (q9 (row_form h hv hfv (by unfold btw; decide))).1]
    exact ⟨rfl, h⟩
  · have e9 := hd.2.2 hof
    rw [ef, e9, show xpo (nI 16) = 14 by decide] at hfv
    rw [cif_f (by decide), (q9 (row_form h hv hfv (by unfold btw; decide))).1]
    exact ⟨rfl, h⟩
theorem R_deep (h : Rl n B S N M G) (t k i z : Int32) : RT n B N G (xs_deep S t k i z) (ms_deep M G t k i z) := by
  unfold xs_deep ms_deep
  exact cif_rel (T := RT n B N G) (eT h) (fun h1 => cif_rel (T := RT n B N G) Iff.rfl (fun q => R_deep2 h h1 (Or.inl q)) (fun _ => cif_rel (T := RT n B N G) Iff.rfl (fun q => R_deep2 h h1 (Or.inr (Or.inl q))) (fun _ => cif_rel (T := RT n B N G) Iff.rfl (fun q => R_deep2 h h1 (Or.inr (Or.inr q))) (fun _ => ⟨rfl, h⟩)))) (fun _ => ⟨rfl, h⟩)
theorem ch_K (h : Rl n B S N M G) {y : Int32} (hy : tV n y) : xK S (mto y) ↔ mC M y := by
  have hn := h.1.1
  rcases hy with q | ⟨u, hu, rfl⟩
  · rw [mto_neg q]
    exact ⟨fun z => absurd z.1 not_xT5, fun z => absurd q z.1⟩
  · rw [mto_nI (by omega)]
    unfold xK mC
    rw [nI_clamp (by omega), (h.2.2.2.1.1 u hu).1]
    exact ⟨fun z => ⟨nI_pos (by omega), z.2⟩, fun z => ⟨nI_xT h hu, z.2⟩⟩
theorem ch_nx (h : Rl n B S N M G) {y : Int32} (hy : tV n y) (hc : mC M y) : S 3 (mto y).toNatClampNeg = mto (mnx M y) ∧ tV n (mnx M y) := by
  have hn := h.1.1
  rcases hy with q | ⟨u, hu, rfl⟩
  · exact absurd q hc.1
  · have hc2 := hc.2
    rw [nI_clamp (by omega)] at hc2
    have := h.2.2.2.1.2.2 u hu hc2
    unfold mnx
    rw [mto_nI (by omega), nI_clamp (by omega), show (10 : Int32) = nI 10 from rfl, pk_mul, nI_clamp (by omega)]
    exact this
theorem R_in (h : Rl n B S N M G) : ∀ (k : Nat) (y : Int32), tV n y → xin S k (mto y) = mto (mde M k y) ∧ tV n (mde M k y)
  | 0, _, hy => ⟨rfl, hy⟩
  | k + 1, y, hy => by
    rw [xin, mde]
    by_cases c : mC M y
    · obtain ⟨e, hv⟩ := ch_nx h hy c
      rw [cif_t c, cif_t ((ch_K h hy).mpr c), e]
      exact R_in h k _ hv
    · rw [cif_f c, cif_f (fun z => c ((ch_K h hy).mp z))]
      exact ⟨rfl, hy⟩
theorem R_dp (h : Rl n B S N M G) : ∀ (k : Nat) (y c : Int32), tV n y → xdp S k (mto y) c = mdp M k y c
  | 0, _, _, _ => rfl
  | k + 1, y, c, hy => by
    rw [xdp, mdp]
    by_cases q : mC M y
    · obtain ⟨e, hv⟩ := ch_nx h hy q
      rw [cif_t q, cif_t ((ch_K h hy).mpr q), e]
      exact R_dp h k _ _ hv
    · rw [cif_f q, cif_f (fun z => q ((ch_K h hy).mp z))]
theorem mdp_fuel : ∀ (k : Nat) (y c : Int32), men M k y → mdp M (k + 1) y c = mdp M k y c
  | 0, y, c, h => by
    show cif (mC M y) (mdp M 0 (mnx M y) (c + 1)) c = c
    exact cif_f h
  | k + 1, y, c, h => by
    rw [mdp]
    by_cases q : mC M y
    · rw [cif_t q, mdp_fuel k _ _ (h q), mdp, cif_t q]
    · rw [cif_f q, mdp, cif_f q]
theorem R_ch (h : Rl n B S N M G) {b : Nat} (hb : b < n) : ∀ (k : Nat) (y : Int32), tV n y → (xch S (nI b) k (mto y) = nI b ↔ mto y = nI b ∨ mwi M (nI b) k y)
  | 0, y, _ => ⟨fun z => Or.inl z, fun z => z.elim id (fun f => f.elim)⟩
  | k + 1, y, hy => by
    have hn := h.1.1
    rw [xch, mwi]
    by_cases q : mto y = nI b
    · rw [cif_f (fun z => z.1 q)]
      exact ⟨fun z => Or.inl z, fun _ => q⟩
    · by_cases c : mC M y
      · obtain ⟨e, hv⟩ := ch_nx h hy c
        rw [cif_t ⟨q, (ch_K h hy).mpr c⟩, e, R_ch h hb k _ hv]
        have : mto (mnx M y) = nI b ↔ mnx M y = nI b := by
          rcases hv with z | ⟨u, hu, z⟩
          · rw [mto_neg z]
            exact ⟨fun w => absurd w (by intro w; have := nI_pos (n := b) (by omega); rw [← w] at this; exact this (by decide)), fun w => absurd z (by rw [w]; exact nI_pos (by omega))⟩
          · rw [z, mto_nI (by omega)]
        rw [this]
        exact ⟨fun z => Or.inr ⟨c, z⟩, fun z => z.elim (fun w => absurd w q) (fun w => w.2)⟩
      · rw [cif_f (fun z => c ((ch_K h hy).mp z.2))]
        exact ⟨fun z => absurd z q, fun z => z.elim (fun w => absurd w q) (fun w => absurd w.1 c)⟩
theorem case_at (h : Rl n B S N M G) {b : Int32} (hb : xK S b) : ∃ u : Nat, u < n ∧ u < 110 ∧ b = nI u ∧ b.toNatClampNeg = u ∧ M 0 u = 18 ∧ mto b = b ∧ tV n b ∧ mC M b := by
  obtain ⟨u, hu, hu1, e, ec, a1, -⟩ := thing_at h hb.1
  have h18 : M 0 u = 18 := by rw [← a1, ← ec]; exact hb.2
  refine ⟨u, hu, hu1, e, ec, h18, by rw [e]; exact mto_nI (by omega), Or.inr ⟨u, hu, e⟩, ?_⟩
  rw [e]
  exact ⟨nI_pos (by omega), by rw [nI_clamp (by omega)]; exact h18⟩
theorem held_at (h : Rl n B S N M G) {b : Int32} (hb : xK S b) : S 3 b.toNatClampNeg = mto (mnx M b) ∧ tV n (mnx M b) := by
  obtain ⟨u, hu, hu1, e, ec, h18, em, hv, hc⟩ := case_at h hb
  have := ch_nx h hv hc
  rw [em] at this
  exact this
theorem R_held (h : Rl n B S N M G) (b : Int32) : xs_held S b = ms_held M b := by
  unfold xs_held ms_held
  exact cif_cg (eK h) (fun h1 => (held_at h h1).1) (fun _ => rfl)
theorem R_innermost (h : Rl n B S N M G) (b k : Int32) : xs_innermost S b k = ms_innermost M b k := by
  unfold xs_innermost ms_innermost
  refine cif_cg (eK h) (fun h1 => cif_cg (btw_mIn (by decide) (by decide)) (fun h2 => ?_) (fun _ => rfl)) (fun _ => rfl)
  obtain ⟨e, hv⟩ := held_at h h1
  obtain ⟨e2, hv2⟩ := R_in h 110 _ hv
  rw [e, e2]
  by_cases q : mde M 110 (mnx M b) < 0
  · rw [cif_t q, mto_neg q, cif_f (fun z => not_xT5 z.1)]
  · have h0 := Int32.not_lt.mp q
    have hx := (tV_T h hv2).mpr h0
    rw [cif_f q, tV_eq hv2 h.1.1 h0]
    rw [tV_eq hv2 h.1.1 h0] at hx
    exact cif_cg (eOf h hx h2) (fun _ => rfl) (fun _ => rfl)
theorem R_inside (h : Rl n B S N M G) (b : Int32) : RT n B N G (xs_inside S b) (ms_inside M b) := by
  unfold xs_inside ms_inside
  refine cif_rel (T := RT n B N G) (eK h) (fun h1 => ?_) (fun _ => ⟨rfl, h⟩)
  obtain ⟨e, hv⟩ := held_at h h1
  obtain ⟨e2, hv2⟩ := R_in h 110 _ hv
  rw [e, e2]
  refine cif_rel (T := RT n B N G) (tV_T h hv2) (fun h5 => ?_) (fun _ => ⟨rfl, h.fd 2 b2⟩)
  have h0 := (tV_T h hv2).mp h5
  rw [tV_eq hv2 h.1.1 h0] at h5 ⊢
  exact cif_rel (T := RT n B N G) (eOf h h5 (by unfold btw; decide)) (fun _ => ⟨R_wo h h5, h⟩) (fun _ => ⟨rfl, h.fd 1 b1⟩)
theorem R_depth (h : Rl n B S N M G) (b : Int32) : xs_depth S b = ms_depth M b := by
  unfold xs_depth ms_depth
  refine cif_cg (eK h) (fun h1 => ?_) (fun _ => rfl)
  obtain ⟨e, hv⟩ := held_at h h1
  obtain ⟨u, hu, hu1, eb, ec, h18, em, hvb, hc⟩ := case_at h h1
  rw [e, R_dp h 109 _ _ hv]
  have hm : men M 110 b := h.2.1.2.2.2.2.2.2.1 b (Or.inr (by rw [eb]; exact vp_in_nI (by omega) (by omega)))
  exact (mdp_fuel 109 _ _ (hm hc)).symm
end Ops2
