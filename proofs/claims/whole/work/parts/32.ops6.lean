section Ops6
variable {n B : Nat} {S : Nat → Nat → Int32} {N : Nat → Nat → Nat → Int32} {M : Nat → Nat → Int32} {G : Nat → Int64}
/-- the same answer, and the states still beside each other, things and all -/
def RX (B : Nat) (N : Nat → Nat → Nat → Int32) (x : Int32 × (Nat → Nat → Int32)) (y : Int32 × (Nat → Nat → Int32) × (Nat → Int64)) : Prop := x.1 = y.1 ∧ ∃ n, Rl n B x.2 N y.2.1 y.2.2
theorem lo_eq {k : Int32} {v : Int64} (hk : btw k 5 8) (h8 : k = 8 → mIn v (-2147483648) 2147483647) : (xlo k v).toInt64 = mlo k v := by
  unfold xlo mlo
  by_cases q5 : k = 5
  · rw [if_pos q5, cif_t q5]
    have := and_small v 16 (by decide) 65535 (by decide)
    exact small_ext (by omega) (by omega)
  · rw [if_neg q5, cif_f q5]
    by_cases q6 : k = 6
    · rw [if_pos q6, cif_t q6]
      exact sx16 v
    · rw [if_neg q6, cif_f q6]
      by_cases q7 : k = 7
      · rw [if_pos q7, cif_t q7]
        have := and_small v 1 (by decide) 1 (by decide)
        exact small_ext (by omega) (by omega)
      · rw [if_neg q7, cif_f q7]
        have e : k = 8 := by
          rw [btw_iff, show (5 : Int32).toInt = 5 by decide, show (8 : Int32).toInt = 8 by decide] at hk
          have a5 : ¬ k.toInt = 5 := fun z => q5 (Int32.toInt_inj.mp z)
          have a6 : ¬ k.toInt = 6 := fun z => q6 (Int32.toInt_inj.mp z)
          have a7 : ¬ k.toInt = 7 := fun z => q7 (Int32.toInt_inj.mp z)
          have a8 : k.toInt = 8 := by omega
          exact Int32.toInt_inj.mp a8
        have z := h8 e
        rw [mIn_iff, show (-2147483648 : Int64).toInt = -2147483648 by decide, show (2147483647 : Int64).toInt = 2147483647 by decide] at z
        exact small_ext z.1 (by omega)
theorem updL_s {g : Nat → Int64} {k : Nat} {v : Int64} : vp_updL g k v k = v := by simp [vp_updL]
theorem updL_n {g : Nat → Int64} {k i : Nat} {v : Int64} (h : ¬ i = k) : vp_updL g k v i = g i := by simp [vp_updL, h]
/-- a row of numbers takes what it is given -/
theorem R_num (h : Rl n B S N M G) {u j : Nat} (hu : u < n) (hj : j < 10) (hr : btw (M 0 u) 5 8) {x : Int32} {y : Int64} (hxy : x.toInt64 = y) : Rl n B (sU S 4 (10 * u + j) x) N M (vp_updL G (10 * u + j) y) := by
  obtain ⟨h1, hm, h3, ⟨t1, t2, t3⟩, h5, h6⟩ := h
  refine ⟨h1, hm, h3, ⟨t1, fun t ht i hi hs => ?_, t3⟩, h5, h6⟩
  obtain ⟨q1, q2⟩ := t2 t ht i hi hs
  refine ⟨fun hb => ?_, fun hb => ?_⟩
  · show vp_updL G (10 * u + j) y (10 * t + i) = (upd (S 4) (10 * u + j) x (10 * t + i)).toInt64
    by_cases e : 10 * t + i = 10 * u + j
    · rw [e, upd_s, updL_s]
      exact hxy.symm
    · rw [upd_n e, updL_n e]
      exact q1 hb
  · have hne : ¬ 10 * t + i = 10 * u + j := fun e => by
      have : t = u := by omega
      rw [this] at hb
      rw [btw_iff] at hb hr
      rw [show (8 : Int32).toInt = 8 by decide] at hr
      rw [show (9 : Int32).toInt = 9 by decide] at hb
      omega
    show upd (S 4) (10 * u + j) x (10 * t + i) = mto (M 4 (10 * t + i)) ∧ rV n M (M 0 t) (M 4 (10 * t + i))
    rw [upd_n hne]
    exact q2 hb
theorem R_write2 (h : Rl n B S N M G) {t k i : Int32} {v : Int64} (h1 : xT S t) (hk : btw k 5 8) (h8 : k = 8 → mIn v (-2147483648) 2147483647) : RX B N (xs_write2 S t k i v) (ms_write2 M G t k i v) := by
  unfold xs_write2 ms_write2
  refine cif_rel (T := RX B N) (eOf h h1 (btw_w hk (by decide) (by decide))) (fun h3 => cif_rel (T := RX B N) (ePl h h1) (fun h4 => ?_) (fun _ => ⟨rfl, n, h.fd 3 b3⟩)) (fun _ => ⟨rfl, n, h.fd 1 b1⟩)
  obtain ⟨u, j, hu, hu1, hj, e, ej, ec, e1, e2, hs⟩ := place_at h h1 h4
  rw [e1, e2]
  exact ⟨rfl, n, R_num h hu hj (num_form h hu (of_fIs h ec hu h3) hk).2 (lo_eq hk h8)⟩
theorem R_write (h : Rl n B S N M G) (t k i : Int32) (v : Int64) : RX B N (xs_write S t k i v) (ms_write M G t k i v) := by
  unfold xs_write ms_write
  refine mrf_rel (T := RX B N) (b := fun z => (z, M, G)) h (fun h1 h2 => ?_) ⟨rfl, n, h⟩ ⟨rfl, n, h⟩
  by_cases q : k = 8
  · rw [cif_t q, cif_t q]
    exact cif_rel (T := RX B N) fits_iff (fun z => R_write2 h h1 h2 (fun _ => fits_iff.mp z)) (fun _ => ⟨rfl, n, h⟩)
  · rw [cif_f q, cif_f q]
    exact R_write2 h h1 h2 (fun z => absurd z q)
theorem xfl_n (b : Nat) (hb : ¬ b = 4) {c e : Int32} : ∀ k, xfl S c e k b = S b
  | 0 => rfl
  | k + 1 => by
    rw [xfl, sU, if_neg hb]
    exact xfl_n b hb k
theorem at10 {k : Nat} (hn : n < 110) (hk : k < 10) : (nI n * 10 + nI k).toNatClampNeg = 10 * n + k := by
  rw [show (10 : Int32) = nI 10 from rfl, pk_mul, nI_add, nI_clamp (by omega)]
  omega
theorem at10' {k : Nat} (hn : n < 110) (hk : k < 10) : (10 * nI n + nI k).toNatClampNeg = 10 * n + k := by
  rw [show (10 : Int32) = nI 10 from rfl, pk_mul, nI_add, nI_clamp (by omega)]
theorem xfl_out (hn : n < 110) {e : Int32} {i : Nat} (hi : i < 10 * n ∨ 10 * n + 10 ≤ i) : ∀ k, k ≤ 10 → xfl S (nI n) e k 4 i = S 4 i
  | 0, _ => rfl
  | k + 1, hk => by
    show upd (xfl S (nI n) e k 4) (nI n * 10 + nI k).toNatClampNeg e i = S 4 i
    rw [at10 hn (by omega), upd_n (by omega)]
    exact xfl_out hn hi k (by omega)
theorem xfl_in (hn : n < 110) {e : Int32} {i : Nat} : ∀ k, k ≤ 10 → i < k → xfl S (nI n) e k 4 (10 * n + i) = e
  | 0, _, hi => absurd hi (Nat.not_lt_zero _)
  | k + 1, hk, hi => by
    show upd (xfl S (nI n) e k 4) (nI n * 10 + nI k).toNatClampNeg e (10 * n + i) = e
    rw [at10 hn (by omega)]
    by_cases q : i = k
    · rw [q, upd_s]
    · rw [upd_n (by omega)]
      exact xfl_in hn k (by omega) (by omega)
theorem mfl_out (hn : n < 110) {i : Nat} (hi : i < 10 * n ∨ 10 * n + 10 ≤ i) : ∀ k, k ≤ 10 → mfl M (nI n) k 4 i = M 4 i
  | 0, _ => rfl
  | k + 1, hk => by
    show upd (mfl M (nI n) k 4) (10 * nI n + nI k).toNatClampNeg (-1) i = M 4 i
    rw [at10' hn (by omega), upd_n (by omega)]
    exact mfl_out hn hi k (by omega)
theorem mfl_in (hn : n < 110) {i : Nat} : ∀ k, k ≤ 10 → i < k → mfl M (nI n) k 4 (10 * n + i) = -1
  | 0, _, hi => absurd hi (Nat.not_lt_zero _)
  | k + 1, hk, hi => by
    show upd (mfl M (nI n) k 4) (10 * nI n + nI k).toNatClampNeg (-1) (10 * n + i) = -1
    rw [at10' hn (by omega)]
    by_cases q : i = k
    · rw [q, upd_s]
    · rw [upd_n (by omega)]
      exact mfl_in hn k (by omega) (by omega)
theorem mgl_out (hn : n < 110) {i : Nat} (hi : i < 10 * n ∨ 10 * n + 10 ≤ i) : ∀ k, k ≤ 10 → mgl G (nI n) k i = G i
  | 0, _ => rfl
  | k + 1, hk => by
    show vp_updL (mgl G (nI n) k) (10 * nI n + nI k).toNatClampNeg 0 i = G i
    rw [at10' hn (by omega), updL_n (by omega)]
    exact mgl_out hn hi k (by omega)
theorem mgl_in (hn : n < 110) {i : Nat} : ∀ k, k ≤ 10 → i < k → mgl G (nI n) k (10 * n + i) = 0
  | 0, _, hi => absurd hi (Nat.not_lt_zero _)
  | k + 1, hk, hi => by
    show vp_updL (mgl G (nI n) k) (10 * nI n + nI k).toNatClampNeg 0 (10 * n + i) = 0
    rw [at10' hn (by omega)]
    by_cases q : i = k
    · rw [q, updL_s]
    · rw [updL_n (by omega)]
      exact mgl_in hn k (by omega) (by omega)
theorem tV_up {y : Int32} (h : tV n y) : tV (n + 1) y := by
  rcases h with q | ⟨u, hu, e⟩
  · exact Or.inl q
  · exact Or.inr ⟨u, by omega, e⟩
/-- one thing more -/
theorem men_add {M M' : Nat → Nat → Int32} (hn : n < 110) {f : Int32} (m0 : M' 0 = upd (M 0) n f) (m4 : ∀ i, i < 10 * n ∨ 10 * n + 10 ≤ i → M' 4 i = M 4 i) (m4' : M' 4 (10 * n) = -1) (hpv : ∀ i, i < 1100 → mV (M' 4 i)) (hpv0 : ∀ i, i < 1100 → mV (M 4 i)) (h : ∀ t, mV t → men M 110 t) : ∀ t, mV t → men M' 110 t := by
  have key : ∀ k t, mV t → men M k t → ∃ j, men M' j t := by
    intro k
    induction k with
    | zero =>
      intro t hV ht
      by_cases hc : mC M' t
      · obtain ⟨x, hx, ex⟩ := vp_in_of (mV_C hV hc) (by omega)
        have e10 : (10 * t).toNatClampNeg = 10 * x := by rw [ex]; exact ten_nI hx
        by_cases e : x = n
        · refine ⟨1, fun _ => ?_⟩
          show ¬ mC M' (M' 4 (10 * t).toNatClampNeg)
          rw [e10, e, m4']
          exact fun z => z.1 (by decide)
        · refine absurd ⟨hc.1, ?_⟩ ht
          have := hc.2
          rw [ex, nI_clamp (by omega), m0, upd_n e] at this
          rw [ex, nI_clamp (by omega)]
          exact this
      · exact ⟨0, hc⟩
    | succ k ih =>
      intro t hV ht
      by_cases hc : mC M' t
      · obtain ⟨x, hx, ex⟩ := vp_in_of (mV_C hV hc) (by omega)
        have e10 : (10 * t).toNatClampNeg = 10 * x := by rw [ex]; exact ten_nI hx
        by_cases e : x = n
        · refine ⟨1, fun _ => ?_⟩
          show ¬ mC M' (M' 4 (10 * t).toNatClampNeg)
          rw [e10, e, m4']
          exact fun z => z.1 (by decide)
        · have hc0 : mC M t := by
            refine ⟨hc.1, ?_⟩
            have := hc.2
            rw [ex, nI_clamp (by omega), m0, upd_n e] at this
            rw [ex, nI_clamp (by omega)]
            exact this
          have hI := mV_C hV hc0
          obtain ⟨j, hj⟩ := ih _ (mV_nx hpv0 hI) (ht hc0)
          refine ⟨j + 1, fun _ => ?_⟩
          have hm : mnx M' t = mnx M t := by
            show M' 4 (10 * t).toNatClampNeg = M 4 (10 * t).toNatClampNeg
            rw [e10, m4 _ (by omega)]
          rw [hm]
          exact hj
      · exact ⟨0, hc⟩
  exact men_short hpv (fun t ht => key 110 t ht (h t ht))
theorem R_add {S' M' : Nat → Nat → Int32} {G' : Nat → Int64} (h : Rl n B S N M G) (hn : n < 110) {f y : Int32} {zz : Nat} (hzz : zz ≤ 10) (hf : vp_in f 19)
    (x0 : S' 0 = upd (S 0) n f) (x1 : S' 1 = upd (S 1) n y) (x2 : S' 2 = upd (S 2) n (nI zz)) (x3 : S' 3 = upd (S 3) n (-5)) (x4 : ∀ i, i < 10 * n ∨ 10 * n + 10 ≤ i → S' 4 i = S 4 i) (x4' : ∀ i, i < zz → S' 4 (10 * n + i) = cif (btw f 9 17) (-5) 0) (x5 : S' 5 = S 5) (x6 : S' 6 0 = nI (n + 1)) (x7 : S' 7 = S 7)
    (m0 : M' 0 = upd (M 0) n f) (m1 : M' 1 = upd (M 1) n y) (m2 : M' 2 = upd (M 2) n (nI zz)) (m4 : ∀ i, i < 10 * n ∨ 10 * n + 10 ≤ i → M' 4 i = M 4 i) (m4' : ∀ i, i < 10 → M' 4 (10 * n + i) = -1) (m6 : M' 6 0 = nI (n + 1)) (mo : ∀ b, ¬ b = 0 → ¬ b = 1 → ¬ b = 2 → ¬ b = 4 → ¬ b = 6 → M' b = M b)
    (g : ∀ i, i < 10 * n ∨ 10 * n + 10 ≤ i → G' i = G i) (g' : ∀ i, i < 10 → G' (10 * n + i) = 0) : Rl (n + 1) B S' N M' G' := by
  obtain ⟨⟨_, hB, _, _, s7, m7⟩, ⟨p1, p2, p3, p4, p5, p6, p7, p8, p9⟩, h3, ⟨t1, t2, t3⟩, h5, h6⟩ := h
  have pv : ∀ i, i < 1100 → mV (M' 4 i) := fun i hi => by
    by_cases q : i < 10 * n ∨ 10 * n + 10 ≤ i
    · rw [m4 i q]; exact p3 i hi
    · have := m4' (i - 10 * n) (by omega)
      rw [show 10 * n + (i - 10 * n) = i by omega] at this
      rw [this]
      exact Or.inl (by decide)
  have m40 : M' 4 (10 * n) = -1 := m4' 0 (by omega)
  refine ⟨⟨by omega, hB, x6, m6, by rw [x7]; exact s7, by rw [mo 7 (by decide) (by decide) (by decide) (by decide) (by decide)]; exact m7⟩, ⟨fun i hi => ?_, fun i hi => ?_, pv, ?_, ?_, ?_, men_add hn m0 m4 m40 pv p3 p7, ?_, ?_⟩, fun i hi => ?_, ⟨fun t ht => ?_, fun t ht i hi hs => ?_, fun t ht hc => ?_⟩, fun j hj => ?_, fun k hk => ?_⟩
  · rw [m0]
    by_cases e : i = n
    · rw [e, upd_s]; exact hf
    · rw [upd_n e]; exact p1 i hi
  · rw [m2]
    by_cases e : i = n
    · rw [e, upd_s]; exact ⟨zz, hzz, rfl⟩
    · rw [upd_n e]; exact p2 i hi
  · rw [mo 11 (by decide) (by decide) (by decide) (by decide) (by decide)]; exact p4
  · rw [mo 13 (by decide) (by decide) (by decide) (by decide) (by decide)]; exact p5
  · rw [mo 9 (by decide) (by decide) (by decide) (by decide) (by decide)]; exact p6
  · rw [mo 14 (by decide) (by decide) (by decide) (by decide) (by decide)]; exact p8
  · rw [mo 15 (by decide) (by decide) (by decide) (by decide) (by decide)]; exact p9
  · rw [x2]
    by_cases e : i = n
    · rw [e, upd_s, nI_toInt (by omega)]; omega
    · rw [upd_n e]; exact h3 i hi
  · rw [x0, x1, x2, m0, m1, m2]
    by_cases e : t = n
    · rw [e, upd_s, upd_s, upd_s, upd_s, upd_s, upd_s]; exact ⟨rfl, rfl, rfl⟩
    · rw [upd_n e, upd_n e, upd_n e, upd_n e, upd_n e, upd_n e]; exact t1 t (by omega)
  · rw [m2] at hs
    rw [m0]
    by_cases e : t = n
    · rw [e, upd_s] at hs ⊢
      have hiz : i < zz := (nI_ltI (by omega) (by omega)).mp hs
      rw [g' i hi, x4' i hiz, m4' i hi]
      refine ⟨fun hb => ?_, fun hb => ?_⟩
      · have hnb : ¬ btw f 9 17 := fun z => by
          rw [btw_iff] at hb z
          rw [show (8 : Int32).toInt = 8 by decide] at hb
          rw [show (9 : Int32).toInt = 9 by decide] at z
          omega
        rw [cif_f hnb]
        decide
      · rw [cif_t hb]
        exact ⟨mto_m1.symm, Or.inl (by decide)⟩
    · rw [upd_n e] at hs ⊢
      obtain ⟨q1, q2⟩ := t2 t (by omega) i hi hs
      rw [g _ (by omega), x4 _ (by omega), m4 _ (by omega)]
      refine ⟨q1, fun hb => ⟨(q2 hb).1, ?_⟩⟩
      rcases (q2 hb).2 with z | ⟨u, hu, ez, hz⟩
      · exact Or.inl z
      · refine Or.inr ⟨u, by omega, ez, ?_⟩
        rw [m0, upd_n (by omega)]
        exact hz
  · rw [x3]
    by_cases e : t = n
    · rw [e, upd_s, m40]
      exact ⟨mto_m1.symm, Or.inl (by decide)⟩
    · rw [m0, upd_n e] at hc
      rw [upd_n e, m4 _ (by omega)]
      obtain ⟨q1, q2⟩ := t3 t (by omega) hc
      exact ⟨q1, tV_up q2⟩
  · obtain ⟨l1, l2, w, hw, l3, l4, l5, l6, l7⟩ := h5 j hj
    unfold RlL
    rw [mo 8 (by decide) (by decide) (by decide) (by decide) (by decide), mo 9 (by decide) (by decide) (by decide) (by decide) (by decide), mo 10 (by decide) (by decide) (by decide) (by decide) (by decide), mo 11 (by decide) (by decide) (by decide) (by decide) (by decide), mo 12 (by decide) (by decide) (by decide) (by decide) (by decide), mo 13 (by decide) (by decide) (by decide) (by decide) (by decide)]
    refine ⟨l1, l2, w, hw, l3, l4, fun i hi => ?_, l6, l7⟩
    obtain ⟨a1, a2, a3, a4, a5, b, hb, eb, h18⟩ := l5 i hi
    refine ⟨a1, a2, a3, a4, tV_up a5, b, by omega, eb, ?_⟩
    rw [m0, upd_n (by omega)]
    exact h18
  · rw [x5, mo 5 (by decide) (by decide) (by decide) (by decide) (by decide)]; exact h6 k hk
theorem R_ad (h : Rl n B S N M G) (hn : n < 110) {f y : Int32} {zz : Nat} (hzz : zz ≤ 10) (hf : vp_in f 19) : Rl (n + 1) B (xad S f y (nI zz)) N (mad M f y (nI zz)) (mgl G (M 6 0) 10) := by
  have s6 := h.1.2.2.1
  have m6 := h.1.2.2.2.1
  have hc : (nI n).toNatClampNeg = n := nI_clamp (by omega)
  unfold xad mad
  rw [s6, m6, hc, nI_clamp (show zz < 2 ^ 31 by omega)]
  refine R_add h hn hzz hf (y := y) ?_ ?_ ?_ ?_ ?_ ?_ ?_ ?_ ?_ ?_ ?_ ?_ ?_ ?_ ?_ ?_ ?_ ?_
  · rw [sU, if_neg (by decide), xfl_n 0 (by decide)]; rfl
  · rw [sU, if_neg (by decide), xfl_n 1 (by decide)]; rfl
  · rw [sU, if_neg (by decide), xfl_n 2 (by decide)]; rfl
  · rw [sU, if_neg (by decide), xfl_n 3 (by decide)]; rfl
  · intro i hi
    rw [sU, if_neg (by decide), xfl_out hn hi zz hzz]; rfl
  · intro i hi
    rw [sU, if_neg (by decide), xfl_in hn zz hzz hi]
  · rw [sU, if_neg (by decide), xfl_n 5 (by decide)]; rfl
  · rw [sU, if_pos rfl, upd_s, nI_1]
  · rw [sU, if_neg (by decide), xfl_n 7 (by decide)]; rfl
  · rw [sU, if_neg (by decide), mfl_ne _ _ 0 (by decide)]; rfl
  · rw [sU, if_neg (by decide), mfl_ne _ _ 1 (by decide)]; rfl
  · rw [sU, if_neg (by decide), mfl_ne _ _ 2 (by decide)]; rfl
  · intro i hi
    rw [sU, if_neg (by decide), mfl_out hn hi 10 (by omega)]; rfl
  · intro i hi
    rw [sU, if_neg (by decide), mfl_in hn 10 (by omega) hi]
  · rw [sU, if_pos rfl, upd_s, nI_1]
  · intro b c0 c1 c2 c4 c6
    rw [sU, if_neg c6, mfl_ne _ _ b c4, sU, if_neg c2, sU, if_neg c1, sU, if_neg c0]
  · exact fun i hi => mgl_out hn hi 10 (by omega)
  · exact fun i hi => mgl_in hn 10 (by omega) hi
theorem R_new (h : Rl n B S N M G) {f y : Int32} {zz : Nat} (hzz : zz ≤ 10) (hf : vp_in f 19) : RX B N (cif (S 6 0 < 110) (S 6 0, xad S f y (nI zz)) (-4, S)) (cif (M 6 0 = 110) (-4, M, G) (M 6 0 + 1 - 1, mad M f y (nI zz), mgl G (M 6 0) 10)) := by
  have hn := h.1.1
  have s6 := h.1.2.2.1
  have m6 := h.1.2.2.2.1
  by_cases q : n < 110
  · rw [cif_t (by rw [s6]; exact nI_lt (b := 110) q (by omega)), cif_f (by rw [m6]; exact fun z => by have := (nI_eq (a := n) (b := 110) (by omega) (by omega)).mp z; omega)]
    exact ⟨by rw [s6, m6]; exact (Int32.add_sub_cancel _ _).symm, n + 1, R_ad h q hzz hf⟩
  · have e : n = 110 := by omega
    rw [cif_f (by rw [s6, e]; decide), cif_t (by rw [m6, e]; decide)]
    exact ⟨rfl, n, h⟩
theorem R_thing (h : Rl n B S N M G) (f y : Int32) : RX B N (xs_thing S f y) (ms_thing M G f y) := by
  unfold xs_thing ms_thing
  exact cif_rel (T := RX B N) (btw_mIn (by decide) (by decide)) (fun h1 => cif_rel (T := RX B N) (btw_mIn (by decide) (by decide)) (fun _ => R_new h (zz := 0) (by omega) (btw_in h1 (by decide) (by decide))) (fun _ => ⟨rfl, n, h⟩)) (fun _ => ⟨rfl, n, h⟩)
theorem R_makeCase (h : Rl n B S N M G) : RX B N (xs_makeCase S) (ms_makeCase M G) := by
  unfold xs_makeCase ms_makeCase
  exact R_new h (zz := 0) (by omega) (by unfold vp_in; decide)
theorem R_mrow (h : Rl n B S N M G) (f z : Int32) : RX B N (xs_row S f z) (ms_row M G f z) := by
  have hn := h.1.1
  have s6 := h.1.2.2.1
  have m6 := h.1.2.2.2.1
  unfold xs_row ms_row
  refine cif_rel (T := RX B N) (btw_mIn (by decide) (by decide)) (fun h1 => cif_rel (T := RX B N) Iff.rfl (fun h2 => ?_) (fun _ => ⟨rfl, n, h⟩)) (fun _ => ⟨rfl, n, h⟩)
  by_cases q : 0 ≤ z
  · obtain ⟨zz, hzz, rfl⟩ := nI_of2 (x := z) (M := 10) (n := 10) (by decide) (Int32.not_lt.mpr q) h2
    rw [cif_t q, cif_t q]
    exact R_new h hzz (btw_in h1 (by decide) (by decide))
  · rw [cif_f q, cif_f q]
    by_cases q2 : n < 110
    · rw [cif_t (by rw [s6]; exact nI_lt (b := 110) q2 (by omega)), cif_f (by rw [m6]; exact fun z => by have := (nI_eq (a := n) (b := 110) (by omega) (by omega)).mp z; omega)]
      exact ⟨rfl, n, h.fd 5 b5⟩
    · have e : n = 110 := by omega
      rw [cif_f (by rw [s6, e]; decide), cif_t (by rw [m6, e]; decide)]
      exact ⟨rfl, n, h⟩
end Ops6
