section Ops8
variable {n B : Nat} {G : Nat → Int64}
theorem want_at {S : Nat → Nat → Int32} {N : Nat → Nat → Nat → Int32} {M : Nat → Nat → Int32} (h : Rl n B S N M G) {j w : Nat} (hj : j < B) (hw : nI w < M 9 j) (hw8 : w < 8) : ∃ bb : Nat, bb < n ∧ bb < 110 ∧ N j 3 w = nI bb ∧ M 11 (8 * j + w) = nI bb ∧ M 0 bb = 18 ∧ N j 4 w = M 12 (8 * j + w) ∧ btw (M 12 (8 * j + w)) 0 20 ∧ N j 5 w = mto (M 13 (8 * j + w)) ∧ tV n (M 13 (8 * j + w)) ∧ S 3 bb = mto (M 4 (10 * bb)) ∧ tV n (M 4 (10 * bb)) ∧ mnx M (nI bb) = M 4 (10 * bb) := by
  have hn := h.1.1
  obtain ⟨l1, l2, wn, hwn, l3, l4, l5, l6, l7⟩ := h.2.2.2.2.1 j hj
  rw [l4] at hw
  have hlt := (nI_ltI (by omega) (by omega)).mp hw
  obtain ⟨a1, a2, a3, a4, a5, b, hb, eb, h18⟩ := l5 w hlt
  obtain ⟨c1, c2⟩ := h.2.2.2.1.2.2 b hb h18
  refine ⟨b, hb, by omega, by rw [a1, eb], eb, h18, a2, a3, a4, a5, c1, c2, ?_⟩
  unfold mnx
  rw [ten_nI (by omega)]
theorem R_lv {j : Nat} (hj : j < B) (hj8 : j < 8) : ∀ (k w : Nat) (S : Nat → Nat → Int32) (N : Nat → Nat → Nat → Int32) (M : Nat → Nat → Int32), Rl n B S N M G → M 9 j = nI (w + k) → w + k ≤ 8 → RN n B G (xlv j w k S N) (mlv (nI j) w k M)
  | 0, w, S, N, M, h, _, _ => by
    rw [xlv, mlv, nI_clamp (by omega)]
    exact ⟨rfl, R_state h (Or.inr (Or.inr (Or.inl rfl)))⟩
  | k + 1, w, S, N, M, h, h9, hw => by
    have hn := h.1.1
    have hlt : nI w < M 9 j := by rw [h9]; exact nI_lt (by omega) (by omega)
    obtain ⟨bb, hb, hb1, e3, e11, h18, e4, hk, e5, -, es3, ht3, em⟩ := want_at h hj hlt (by omega)
    have hcj : (nI j).toNatClampNeg = j := nI_clamp (by omega)
    have hx : xlw S N j (nI w) = cif (mto (M 4 (10 * bb)) = -5) (2, S, N) (cif (xOf S (mto (M 4 (10 * bb))) (M 12 (8 * j + w))) (0, sU S 3 bb (-5), nU N j 5 w (mto (M 4 (10 * bb)))) (1, S, N)) := by
      rw [xlw, nI_clamp (show w < 2 ^ 31 by omega), e3, nI_clamp (show bb < 2 ^ 31 by omega), es3, e4]
    rw [xlv, mlv, e8 hj8 (show w < 8 by omega), e11, em, ten_nI hb1, hcj]
    by_cases q : 0 ≤ M 4 (10 * bb)
    · rw [cif_t q]
      have hT := (tV_T h ht3).mpr q
      have ee := eOf h hT hk
      have emt := tV_eq ht3 hn q
      rw [emt] at ee
      by_cases z : mOf M (M 4 (10 * bb)) (M 12 (8 * j + w))
      · rw [hx, cif_f (fun y => mto_ne5.mp y q), cif_t (show xOf S (mto (M 4 (10 * bb))) (M 12 (8 * j + w)) by rw [emt]; exact ee.mpr z), cif_t rfl, cif_t z]
        have h1 := R_van5 h hj hlt (by omega) ht3
        have h2 := R_put h1 hb h18 m1V (by
          have := men_cut (b := nI bb) h1.2.1.2.2.1 h1.2.1.2.2.2.2.2.2.1 (vp_in_nI (by omega) (by omega))
          rwa [ten_nI hb1] at this)
        rw [mto_m1] at h2
        exact R_lv hj hj8 k (w + 1) _ _ _ h2 (by rw [show w + 1 + k = w + (k + 1) by omega]; exact h9) (by omega)
      · rw [hx, cif_f (fun y => mto_ne5.mp y q), cif_f (show ¬ xOf S (mto (M 4 (10 * bb))) (M 12 (8 * j + w)) by rw [emt]; exact fun y => z (ee.mp y)), cif_f (show ¬ (1 : Int32) = 0 by decide), cif_f z]
        exact ⟨rfl, (R_stuck (R_state h (Or.inr (Or.inl rfl)))).fd 1 b1⟩
    · rw [hx, cif_t (mto_ne5.mpr q), cif_f (show ¬ (2 : Int32) = 0 by decide), cif_f q]
      exact ⟨rfl, (R_stuck (R_state h (Or.inr (Or.inl rfl)))).fd 2 b2⟩
theorem R_leave {S : Nat → Nat → Int32} {N : Nat → Nat → Nat → Int32} {M : Nat → Nat → Int32} (h : Rl n B S N M G) (l : Int32) : RN n B G (xs_leave S N l) (ms_leave M l) := by
  unfold xs_leave ms_leave
  refine cif_rel (T := RN n B G) (eL h) (fun h1 => ?_) (fun _ => ⟨rfl, h⟩)
  obtain ⟨j, hj, hj8, e, ec, l1, l2, w, hw, l3, l4, l5, l6, l7⟩ := loan_at h h1
  rw [ec, l1, l3, l4, nI_clamp (show w < 2 ^ 31 by omega)]
  refine cif_rel (T := RN n B G) Iff.rfl (fun h4 => ?_) (fun _ => ⟨rfl, h⟩)
  rw [e]
  exact R_lv hj hj8 w 0 S N M h (by rw [Nat.zero_add]; exact l4) (by omega)
/-- the first that is left in the van -/
def lfI (N : Nat → Nat → Nat → Int32) (j k : Nat) (lf : Int32) : Prop := (lf = -5 ∧ ∀ i, k ≤ i → i < 8 → N j 5 i = -5) ∨ ∃ p : Nat, k ≤ p ∧ p < 8 ∧ lf = nI p ∧ ¬ N j 5 p = -5 ∧ ∀ i, k ≤ i → i < p → N j 5 i = -5
theorem nI_n5 {p : Nat} (hp : p < 8) : ¬ nI p = -5 := fun z => by
  have := nI_pos (n := p) (by omega)
  rw [z] at this
  exact this (by decide)
theorem se_eq {N : Nat → Nat → Nat → Int32} {j : Nat} {lf : Int32} : ∀ (k w : Nat), w + k = 8 → lfI N j w lf → xse N j w k = nU (nU N j 0 0 (cif (lf = -5) 3 1)) j 2 0 lf
  | 0, w, hw, h => by
    rcases h with ⟨h1, -⟩ | ⟨p, h1, h2, -⟩
    · rw [xse, h1, cif_t rfl]
    · omega
  | k + 1, w, hw, h => by
    rw [xse]
    by_cases q : N j 5 w = -5
    · rw [cif_t q]
      refine se_eq k (w + 1) (by omega) ?_
      rcases h with ⟨h1, h2⟩ | ⟨p, h1, h2, h3, h4, h5⟩
      · exact Or.inl ⟨h1, fun i hi => h2 i (by omega)⟩
      · have : ¬ p = w := fun z => h4 (by rw [z]; exact q)
        exact Or.inr ⟨p, by omega, h2, h3, h4, fun i hi => h5 i (by omega)⟩
    · rw [cif_f q]
      rcases h with ⟨h1, h2⟩ | ⟨p, h1, h2, h3, h4, h5⟩
      · exact absurd (h2 w (Nat.le_refl _) (by omega)) q
      · have : p = w := Classical.byContradiction fun z => q (h5 w (Nat.le_refl _) (by omega))
        rw [h3, this, cif_f (nI_n5 (by omega))]
theorem lf_skip {N : Nat → Nat → Nat → Int32} {j k : Nat} {lf : Int32} (h : lfI N j (k + 1) lf) (hk : N j 5 k = -5) : lfI N j k lf := by
  rcases h with ⟨h1, h2⟩ | ⟨p, h1, h2, h3, h4, h5⟩
  · refine Or.inl ⟨h1, fun i hi hi2 => ?_⟩
    by_cases e : i = k
    · rw [e]; exact hk
    · exact h2 i (by omega) hi2
  · refine Or.inr ⟨p, by omega, h2, h3, h4, fun i hi hi2 => ?_⟩
    by_cases e : i = k
    · rw [e]; exact hk
    · exact h5 i (by omega) hi2
theorem lf_here {N : Nat → Nat → Nat → Int32} {j k : Nat} (hk8 : k < 8) (hk : ¬ N j 5 k = -5) : lfI N j k (nI k) := Or.inr ⟨k, Nat.le_refl _, hk8, rfl, hk, fun i hi hi2 => by omega⟩
theorem lf_put {N : Nat → Nat → Nat → Int32} {j k : Nat} {lf : Int32} (h : lfI N j (k + 1) lf) : lfI (nU N j 5 k (-5)) j k lf := by
  refine lf_skip ?_ (by rw [nU_same, upd_s])
  unfold lfI
  rw [nU_same]
  rcases h with ⟨h1, h2⟩ | ⟨p, h1, h2, h3, h4, h5⟩
  · refine Or.inl ⟨h1, fun i hi hi2 => ?_⟩
    rw [upd_n (by omega)]
    exact h2 i hi hi2
  · refine Or.inr ⟨p, h1, h2, h3, ?_, fun i hi hi2 => ?_⟩
    · rw [upd_n (by omega)]; exact h4
    · rw [upd_n (by omega)]; exact h5 i hi hi2
theorem R_bk {j wn : Nat} (hj : j < B) (hj8 : j < 8) (hwn : wn ≤ 8) : ∀ (k : Nat) (c lf : Int32) (S : Nat → Nat → Int32) (N : Nat → Nat → Nat → Int32) (M : Nat → Nat → Int32), Rl n B S N M G → M 9 j = nI wn → k ≤ wn → lfI N j k lf → RN n B G (xbk j k c S N) (mbk (nI j) k c lf M)
  | 0, c, lf, S, N, M, h, _, _, hlf => by
    rw [xbk, mbk, nI_clamp (by omega), se_eq 8 0 (by omega) hlf]
    refine ⟨rfl, R_stuck (R_state h ?_)⟩
    by_cases q : lf = -5
    · rw [cif_t q]; exact Or.inr (Or.inr (Or.inr rfl))
    · rw [cif_f q]; exact Or.inr (Or.inl rfl)
  | k + 1, c, lf, S, N, M, h, h9, hk, hlf => by
    have hn := h.1.1
    have hlt : nI k < M 9 j := by rw [h9]; exact nI_lt (by omega) (by omega)
    obtain ⟨bb, hb, hb1, e3, e11, h18, e4, -, e5, hty, es3, ht3, em⟩ := want_at h hj hlt (by omega)
    have hx : xuw S N j (nI k) = cif (mto (M 13 (8 * j + k)) = -5) (0, S, N) (cif (mto (M 4 (10 * bb)) = -5) (cif (xch S (nI bb) 110 (mto (M 13 (8 * j + k))) = nI bb) (0, S, N) (1, sU S 3 bb (mto (M 13 (8 * j + k))), nU N j 5 k (-5))) (0, S, N)) := by
      rw [xuw, nI_clamp (show k < 2 ^ 31 by omega), e3, nI_clamp (show bb < 2 ^ 31 by omega), es3, e5]
    rw [xbk, mbk, e8 hj8 (show k < 8 by omega), e11, em, ten_nI hb1]
    by_cases q : 0 ≤ M 13 (8 * j + k)
    · have emt := tV_eq hty hn q
      have hne : ¬ mto (M 13 (8 * j + k)) = -5 := fun z => mto_ne5.mp z q
      have hne5 : ¬ N j 5 k = -5 := by rw [e5]; exact hne
      have left : RN n B G (xbk j k (cif ((((0 : Int32), S, N) : Int32 × (Nat → Nat → Int32) × (Nat → Nat → Nat → Int32)).1 = 0) c (c + 1)) S N) (mbk (nI j) k c (nI k) M) := by
        rw [cif_t rfl]
        exact R_bk hj hj8 hwn k c (nI k) S N M h h9 (by omega) (lf_here (by omega) hne5)
      rw [cif_t q]
      by_cases q2 : 0 ≤ M 4 (10 * bb)
      · rw [cif_t q2, hx, cif_f hne, cif_f (fun z => mto_ne5.mp z q2)]
        exact left
      · have hch := R_ch h hb 110 _ hty
        rw [cif_f q2, hx, cif_f hne, cif_t (mto_ne5.mpr q2)]
        by_cases q3 : M 13 (8 * j + k) = nI bb
        · rw [cif_t q3, cif_t (hch.mpr (Or.inl (by rw [emt]; exact q3)))]
          exact left
        · rw [cif_f q3]
          by_cases q4 : mwi M (nI bb) 110 (M 13 (8 * j + k))
          · rw [cif_t q4, cif_t (hch.mpr (Or.inr q4))]
            exact left
          · rw [cif_f q4, cif_f (fun z => (hch.mp z).elim (fun y => q3 (by rw [emt] at y; exact y)) q4)]
            rw [cif_f (show ¬ (1 : Int32) = 0 by decide)]
            have h1 := R_put h hb h18 hty (by
              have := men_put (b := nI bb) h.2.1.2.2.1 h.2.1.2.2.2.2.2.2.1 (vp_in_nI (by omega) (by omega)) (tV_mV hn hty) q3 q4
              rwa [ten_nI hb1] at this)
            have h2 := R_van5 (w0 := k) h1 hj hlt (by omega) m1V
            rw [mto_m1] at h2
            exact R_bk hj hj8 hwn k (c + 1) lf _ _ _ h2 h9 (by omega) (lf_put hlf)
    · rw [cif_f q, hx, cif_t (mto_ne5.mpr q), cif_t rfl]
      exact R_bk hj hj8 hwn k c lf S N M h h9 (by omega) (lf_skip hlf (by rw [e5]; exact mto_ne5.mpr q))
theorem R_back {S : Nat → Nat → Int32} {N : Nat → Nat → Nat → Int32} {M : Nat → Nat → Int32} (h : Rl n B S N M G) (l : Int32) : RN n B G (xs_back S N l) (ms_back M l) := by
  unfold xs_back ms_back
  refine cif_rel (T := RN n B G) (eL h) (fun h1 => ?_) (fun _ => ⟨rfl, h⟩)
  obtain ⟨j, hj, hj8, e, ec, l1, l2, w, hw, l3, l4, l5, l6, l7⟩ := loan_at h h1
  have key : RN n B G (xbk j w 0 S N) (mbk (nI j) w 0 (-5) M) := R_bk hj hj8 hw w 0 (-5) S N M h l4 (Nat.le_refl _) (Or.inl ⟨rfl, fun i hi hi2 => l6 i hi2 hi⟩)
  rw [ec, l1, l3, l4, nI_clamp (show w < 2 ^ 31 by omega), e]
  rcases l7 with z | z | z | z
  · rw [z, cif_f (by decide), cif_f (by decide), cif_t rfl]
    exact ⟨rfl, h⟩
  · rw [z, cif_t rfl, cif_f (by decide), cif_f (by decide)]
    exact key
  · rw [z, cif_f (by decide), cif_t rfl, cif_f (by decide), cif_f (by decide)]
    exact key
  · rw [z, cif_f (by decide), cif_f (by decide), cif_f (by decide), cif_t rfl]
    exact ⟨rfl, h⟩
end Ops8
