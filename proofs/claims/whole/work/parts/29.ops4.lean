section Ops4
variable {n B : Nat} {S : Nat → Nat → Int32} {N : Nat → Nat → Nat → Int32} {M : Nat → Nat → Int32} {G : Nat → Int64}
theorem mrf_ok (h : Rl n B S N M G) {t k : Int32} (h1 : xT S t) (h2 : btw k 5 8) : 0 ≤ mrf M t k 5 8 := by
  unfold mrf
  rw [cif_t ((eT h).mp h1), cif_t ((btw_mIn (Int32.toInt_toInt64 5) (Int32.toInt_toInt64 8)).mp h2)]
  decide
theorem mrf_no (h : Rl n B S N M G) {t k : Int32} (h1 : ¬ (xT S t ∧ btw k 5 8)) : ¬ 0 ≤ mrf M t k 5 8 := fun q => by
  obtain ⟨a, b⟩ := mrf_T q
  exact h1 ⟨(eT h).mpr a, (btw_mIn (Int32.toInt_toInt64 5) (Int32.toInt_toInt64 8)).mpr b⟩
/-- what the law's two tests of read ask -/
theorem R_read2 (h : Rl n B S N M G) (h0 : M 16 0 = 0) {t k i : Int32} {g u : Nat → Int64} {r : Int32} (hp : lrPost S t k i g r u) : (ms_read M G t k i).2 16 0 = r ∧ (r = 0 → u 0 = (ms_read M G t k i).1) ∧ Rl n B S N (ms_read M G t k i).2 G := by
  unfold ms_read
  rcases hp with ⟨rfl, v, hv, rfl⟩ | ⟨rfl, h1, h2, h3, -⟩ | ⟨rfl, h1, h2, h3, h4, -⟩
  · have hu : vp_updL g (0 : Int32).toNatClampNeg v 0 = v := by simp [vp_updL]
    rcases hv with ⟨hno, rfl⟩ | ⟨h1, h2, h3, h4, rfl⟩
    · rw [cif_f (mrf_no h hno)]
      exact ⟨h0, fun _ => hu, h⟩
    · rw [cif_t (mrf_ok h h1 h2), cif_t ((eOf h h1 (btw_w h2 (by decide) (by decide))).mp h3), cif_t ((ePl h h1).mp h4)]
      refine ⟨rfl, fun _ => ?_, h.f0 0⟩
      obtain ⟨u, j, hu', hu1, hj, e, ej, ec, e1, e2, hs⟩ := place_at h h1 h4
      rw [hu, e1]
      show (S 4 (10 * u + j)).toInt64 = G (10 * t + i).toNatClampNeg
      rw [e2]
      exact ((h.2.2.2.1.2.1 u hu' j hj hs).1 (num_form h hu' (of_fIs h ec hu' h3) h2).2).symm
  · rw [cif_t (mrf_ok h h1 h2), cif_f (fun z => h3 ((eOf h h1 (btw_w h2 (by decide) (by decide))).mpr z))]
    exact ⟨rfl, fun z => absurd z (by decide), h.f0 1⟩
  · rw [cif_t (mrf_ok h h1 h2), cif_t ((eOf h h1 (btw_w h2 (by decide) (by decide))).mp h3), cif_f (fun z => h4 ((ePl h h1).mpr z))]
    exact ⟨rfl, fun z => absurd z (by decide), h.f0 2⟩
theorem upd_s {f : Nat → Int32} {k : Nat} {v : Int32} : upd f k v k = v := by simp [upd]
theorem upd_n {f : Nat → Int32} {k i : Nat} {v : Int32} (h : ¬ i = k) : upd f k v i = f i := by simp [upd, h]
theorem tV_mV {y : Int32} (hn : n ≤ 110) (h : tV n y) : mV y := by
  rcases h with q | ⟨u, hu, rfl⟩
  · exact Or.inl q
  · exact Or.inr (vp_in_nI (by omega) (by omega))
theorem ten_nI {u : Nat} (hu : u < 110) : (10 * nI u).toNatClampNeg = 10 * u := by
  rw [show (10 : Int32) = nI 10 from rfl, pk_mul, nI_clamp (by omega)]
theorem not_row18 {f : Int32} (h : f = 18) {lo hi : Int32} (hh : hi.toInt ≤ 17) : ¬ btw f lo hi := fun q => by
  rw [btw_iff, h, show (18 : Int32).toInt = 18 by decide] at q
  omega
/-- a case takes what it is given -/
theorem R_put (h : Rl n B S N M G) {u : Nat} (hu : u < n) (h18 : M 0 u = 18) {y : Int32} (hy : tV n y) (hen : ∀ t, mV t → men (sU M 4 (10 * u) y) 110 t) : Rl n B (sU S 3 u (mto y)) N (sU M 4 (10 * u) y) G := by
  obtain ⟨h1, ⟨m1, m2, m3, m4, m5, m6, m7, m8, m9⟩, h3, ⟨t1, t2, t3⟩, h5, h6⟩ := h
  have hn := h1.1
  refine ⟨h1, ⟨m1, m2, pv_put m3 (tV_mV hn hy), m4, m5, m6, hen, m8, m9⟩, h3, ⟨t1, fun t ht i hi hs => ?_, fun t ht hc => ?_⟩, h5, h6⟩
  · obtain ⟨q1, q2⟩ := t2 t ht i hi hs
    refine ⟨q1, fun hb => ?_⟩
    have hne : ¬ 10 * t + i = 10 * u := fun e => not_row18 (show M 0 t = 18 by rw [show t = u by omega]; exact h18) (by decide) hb
    show S 4 (10 * t + i) = mto (upd (M 4) (10 * u) y (10 * t + i)) ∧ rV n M (M 0 t) (upd (M 4) (10 * u) y (10 * t + i))
    rw [upd_n hne]
    exact q2 hb
  · show upd (S 3) u (mto y) t = mto (upd (M 4) (10 * u) y (10 * t)) ∧ tV n (upd (M 4) (10 * u) y (10 * t))
    by_cases e : t = u
    · rw [e, upd_s, upd_s]
      exact ⟨rfl, hy⟩
    · rw [upd_n e, upd_n (by omega)]
      exact t3 t ht hc
theorem m1V : tV n (-1) := Or.inl (by decide)
theorem mto_m1 : mto (-1) = -5 := mto_neg (by decide)
theorem R_fill (h : Rl n B S N M G) (b t : Int32) : RT n B N G (xs_fill S b t) (ms_fill M b t) := by
  have hn := h.1.1
  unfold xs_fill ms_fill
  refine cif_rel (T := RT n B N G) (eK h) (fun h1 => ?_) (fun _ => ⟨rfl, h⟩)
  obtain ⟨u, hu, hu1, e, ec, h18, em, hvb, hc⟩ := case_at h h1
  obtain ⟨hh, hv⟩ := held_at h h1
  have hpv := h.2.1.2.2.1
  have hen := h.2.1.2.2.2.2.2.2.1
  have hbI : vp_in b 110 := by rw [e]; exact vp_in_nI (by omega) (by omega)
  have ek : (10 * b).toNatClampNeg = 10 * u := by rw [e]; exact ten_nI hu1
  by_cases q : t = -5
  · rw [cif_t (show xTN S t from Or.inl q), cif_t q]
    unfold ms_fill2
    have hno : ¬ xch S b 110 t = b := by
      rw [e, q, ← mto_m1, R_ch h hu 110 _ m1V, mto_m1]
      rintro (z | z)
      · have := nI_pos (n := u) (by omega); rw [← z] at this; exact this (by decide)
      · exact z.1.1 (by decide)
    have hne : ¬ t = b := by
      rw [q, e]; intro z; have := nI_pos (n := u) (by omega); rw [← z] at this; exact this (by decide)
    rw [cif_f hno, cif_f hne, cif_t q, ec, ek]
    refine ⟨by rw [← ec]; exact hh, ?_⟩
    have := R_put h hu h18 m1V (by rw [← ek]; exact men_cut hpv hen hbI)
    rw [mto_m1] at this
    rw [q]
    exact this
  · rw [cif_f q]
    refine cif_rel (T := RT n B N G) ⟨fun z => (eT h).mp (z.resolve_left q), fun z => Or.inr ((eT h).mpr z)⟩ (fun h2 => ?_) (fun _ => ⟨rfl, h⟩)
    have ht := h2.resolve_left q
    obtain ⟨v, hvn, hv1, et, etc, -⟩ := thing_at h ht
    have htV : tV n t := Or.inr ⟨v, hvn, et⟩
    have emt : mto t = t := by rw [et]; exact mto_nI (by omega)
    have hch := R_ch h hu 110 t htV
    rw [emt, ← e] at hch
    unfold ms_fill2
    by_cases z : t = b
    · rw [cif_t (hch.mpr (Or.inl z)), cif_t z]
      exact ⟨rfl, h⟩
    · rw [cif_f z, cif_f q]
      by_cases w : mwi M b 110 t
      · rw [cif_t (hch.mpr (Or.inr w)), cif_t w]
        exact ⟨rfl, h⟩
      · rw [cif_f (fun y => (hch.mp y).elim z w), cif_f w, ec, ek]
        refine ⟨by rw [← ec]; exact hh, ?_⟩
        have := R_put h hu h18 htV (by rw [← ek]; exact men_put hpv hen hbI (tV_mV hn htV) z w)
        rw [emt] at this
        exact this
/-- chains don't look at rows -/
theorem men_row {u j : Nat} {y : Int32} (hu : u < 110) (hj : j < 10) (hno : ¬ M 0 u = 18) (h : ∀ t, mV t → men M 110 t) (hpv : ∀ i, i < 1100 → mV (M 4 i)) : ∀ t, mV t → men (sU M 4 (10 * u + j) y) 110 t := by
  have key : ∀ k t, mV t → men M k t → men (sU M 4 (10 * u + j) y) k t := by
    intro k
    induction k with
    | zero => intro t _ ht hc; exact ht hc
    | succ k ih =>
      intro t hV ht hc
      have hc' : mC M t := hc
      have hI := mV_C hV hc'
      obtain ⟨x, hx, ex⟩ := vp_in_of hI (by omega)
      have e10 : (10 * t).toNatClampNeg = 10 * x := by rw [ex]; exact ten_nI hx
      have hne : ¬ 10 * x = 10 * u + j := fun e => by
        have hxu : x = u := by omega
        have h18 := hc'.2
        rw [ex, nI_clamp (by omega), hxu] at h18
        exact hno h18
      have hm : mnx (sU M 4 (10 * u + j) y) t = mnx M t := by
        show upd (M 4) (10 * u + j) y (10 * t).toNatClampNeg = M 4 (10 * t).toNatClampNeg
        rw [e10, upd_n hne]
      rw [hm]
      exact ih _ (mV_nx hpv hI) (ht hc')
  exact fun t ht => key 110 t ht (h t ht)
/-- a row takes what it is given -/
theorem R_row (h : Rl n B S N M G) {u j : Nat} (hu : u < n) (hj : j < 10) (hr : btw (M 0 u) 9 17) {y : Int32} (hy : rV n M (M 0 u) y) : Rl n B (sU S 4 (10 * u + j) (mto y)) N (sU M 4 (10 * u + j) y) G := by
  obtain ⟨h1, ⟨m1, m2, m3, m4, m5, m6, m7, m8, m9⟩, h3, ⟨t1, t2, t3⟩, h5, h6⟩ := h
  have hn := h1.1
  have hno : ¬ M 0 u = 18 := fun e => not_row18 e (by decide) hr
  refine ⟨h1, ⟨m1, m2, pv_put m3 (tV_mV hn (rV_tV hy)), m4, m5, m6, men_row (by omega) hj hno m7 m3, m8, m9⟩, h3, ⟨t1, fun t ht i hi hs => ?_, fun t ht hc => ?_⟩, h5, h6⟩
  · obtain ⟨q1, q2⟩ := t2 t ht i hi hs
    refine ⟨fun hb => ?_, fun hb => ?_⟩
    · have hb0 : btw (M 0 t) 5 8 := hb
      have hne : ¬ 10 * t + i = 10 * u + j := fun e => by
        have : t = u := by omega
        have hb : btw (M 0 u) 5 8 := by rw [← this]; exact hb0
        rw [btw_iff] at hb hr
        rw [show (8 : Int32).toInt = 8 by decide] at hb
        rw [show (9 : Int32).toInt = 9 by decide] at hr
        omega
      show G (10 * t + i) = (upd (S 4) (10 * u + j) (mto y) (10 * t + i)).toInt64
      rw [upd_n hne]
      exact q1 hb
    · show upd (S 4) (10 * u + j) (mto y) (10 * t + i) = mto (upd (M 4) (10 * u + j) y (10 * t + i)) ∧ rV n M (M 0 t) (upd (M 4) (10 * u + j) y (10 * t + i))
      by_cases e : 10 * t + i = 10 * u + j
      · have : t = u := by omega
        rw [e, upd_s, upd_s, this]
        exact ⟨rfl, hy⟩
      · rw [upd_n e, upd_n e]
        exact q2 hb
  · show S 3 t = mto (upd (M 4) (10 * u + j) y (10 * t)) ∧ tV n (upd (M 4) (10 * u + j) y (10 * t))
    have hne : ¬ 10 * t = 10 * u + j := fun e => by
      have : t = u := by omega
      rw [this] at hc
      exact hno hc
    rw [upd_n hne]
    exact t3 t ht hc
end Ops4
