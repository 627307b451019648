section Ops5
variable {n B : Nat} {S : Nat → Nat → Int32} {N : Nat → Nat → Nat → Int32} {M : Nat → Nat → Int32} {G : Nat → Int64}
theorem xpo_p : ∀ k : Nat, k < 18 → 9 ≤ k → xpo (nI k) = pF k ∧ ∃ z : Nat, z < 21 ∧ xpo (nI k) = nI z := by
  have key : ∀ k : Nat, k < 18 → 9 ≤ k → xpo (nI k) = pF k ∧ (xpo (nI k)).toBitVec.toNat < 21 := by decide +kernel
  intro k h1 h2
  obtain ⟨a, b⟩ := key k h1 h2
  refine ⟨a, (xpo (nI k)).toBitVec.toNat, b, ?_⟩
  have := pk_tn (n := (xpo (nI k)).toBitVec.toNat) (by omega)
  apply Int32.toBitVec_inj.mp
  apply BitVec.eq_of_toNat_eq
  exact this.symm
theorem part_of (h : Rl n B S N M G) {k : Int32} (hk : btw k 9 17) : M 15 k.toNatClampNeg = xpo k ∧ btw (xpo k) 0 20 := by
  obtain ⟨j, hj, ek⟩ := vp_in_of (btw_in (L := 18) hk (by decide) (by decide)) (by omega)
  rw [ek] at hk
  have hk2 := (btw_nI (f := j) (lo := 9) (hi := 17) (by omega) (by omega) (by omega)).mp hk
  obtain ⟨a, z, hz, ez⟩ := xpo_p j hj hk2.1
  rw [ek, nI_clamp (by omega), h.2.1.2.2.2.2.2.2.2.2, a]
  refine ⟨rfl, ?_⟩
  rw [← a, ez]
  exact (btw_nI (f := z) (lo := 0) (hi := 20) (by omega) (by omega) (by omega)).mpr ⟨by omega, by omega⟩
theorem ePs (h : Rl n B S N M G) {o k : Int32} (ho : ¬ o = -5) (hT : xT S o) (hk : btw k 0 20) : xPs S o k ↔ mOf M o k := by
  rw [← eOf h hT hk]
  exact ⟨fun z => z.resolve_left ho, fun z => Or.inr z⟩
theorem R_hang3 (h : Rl n B S N M G) {t k i o : Int32} (h1 : xT S t) (hk : btw k 9 17) (h3 : xOf S t k) (ho : o = -5 ∨ xT S o) : RT n B N G (cif (xPl S t i) (cif (xPs S o (xpo (S 0 t.toNatClampNeg))) (1, sU S 4 (t * 10 + i).toNatClampNeg o) (-30 - 4, xfd S 4)) (-30 - 3, xfd S 3)) (ms_hang3 M t k i o) := by
  have hn := h.1.1
  unfold ms_hang3
  refine cif_rel (T := RT n B N G) (ePl h h1) (fun h4 => ?_) (fun _ => ⟨rfl, h.fd 3 b3⟩)
  obtain ⟨u, j, hu, hu1, hj, e, ej, ec, e1, e2, hs⟩ := place_at h h1 h4
  have hr := row_form h hu (of_fIs h ec hu h3) hk
  obtain ⟨p1, p2⟩ := part_of h hr
  rw [ec, (h.2.2.2.1.1 u hu).1, e1, e2, p1]
  by_cases q : o = -5
  · rw [cif_t (show xPs S o _ from Or.inl q), cif_t q]
    refine ⟨rfl, ?_⟩
    have := R_row h hu hj hr (y := -1) (Or.inl (by decide))
    rw [mto_m1] at this
    rw [q]
    exact this
  · have hT := ho.resolve_left q
    rw [cif_f q]
    refine cif_rel (T := RT n B N G) (ePs h q hT p2) (fun h5 => ?_) (fun _ => ⟨rfl, h.fd 4 b4⟩)
    refine ⟨rfl, ?_⟩
    obtain ⟨v, hvn, hv1, et, etc, -⟩ := thing_at h hT
    have hof := of_fIs h etc hvn (h5.resolve_left q)
    have := R_row h hu hj hr (y := o) (Or.inr ⟨v, hvn, et, hof⟩)
    rw [show mto o = o by rw [et]; exact mto_nI (by omega)] at this
    exact this
theorem R_hang (h : Rl n B S N M G) (t k i o : Int32) : RT n B N G (xs_hang S t k i o) (ms_hang M t k i o) := by
  unfold xs_hang ms_hang
  refine cif_rel (T := RT n B N G) (eT h) (fun h1 => ?_) (fun _ => ⟨rfl, h⟩)
  have key : (o = -5 ∨ xT S o) → RT n B N G (cif (btw k 9 17) (cif (xOf S t k) (cif (xPs S o (xpo k)) (cif (xPl S t i) (cif (xPs S o (xpo (S 0 t.toNatClampNeg))) (1, sU S 4 (t * 10 + i).toNatClampNeg o) (-30 - 4, xfd S 4)) (-30 - 3, xfd S 3)) (-30 - 1, xfd S 1)) (-30 - 1, xfd S 1)) (-2, S)) (ms_hang2 M t k i o) := by
    intro ho
    unfold ms_hang2
    refine cif_rel (T := RT n B N G) (btw_mIn (by decide) (by decide)) (fun hk => cif_rel (T := RT n B N G) (eOf h h1 (btw_w hk (by decide) (by decide))) (fun h3 => ?_) (fun _ => ⟨rfl, h.fd 1 b1⟩)) (fun _ => ⟨rfl, h⟩)
    obtain ⟨p1, p2⟩ := part_of h hk
    by_cases q : o = -5
    · rw [cif_t (show xPs S o _ from Or.inl q), cif_t q]
      exact R_hang3 h h1 hk h3 ho
    · rw [cif_f q, p1]
      exact cif_rel (T := RT n B N G) (ePs h q (ho.resolve_left q) p2) (fun _ => R_hang3 h h1 hk h3 ho) (fun _ => ⟨rfl, h.fd 1 b1⟩)
  by_cases q : o = -5
  · rw [cif_t (show xTN S o from Or.inl q), cif_t q]
    exact key (Or.inl q)
  · rw [cif_f q]
    exact cif_rel (T := RT n B N G) ⟨fun z => (eT h).mp (z.resolve_left q), fun z => Or.inr ((eT h).mpr z)⟩ (fun z => key z) (fun _ => ⟨rfl, h⟩)
theorem mcl_ne (b : Nat) (hb : ¬ b = 5) (h6 : ¬ b = 6) (h7 : ¬ b = 7) : ∀ k, mcl M k b = M b
  | 0 => by simp [mcl, sU, h6, h7]
  | k + 1 => by
    rw [mcl, sU, if_neg hb]
    exact mcl_ne b hb h6 h7 k
theorem mcl_67 : ∀ k, mcl M k 6 0 = 0 ∧ mcl M k 7 0 = 0
  | 0 => ⟨by simp [mcl, sU, upd], by simp [mcl, sU, upd]⟩
  | k + 1 => by
    have := mcl_67 k
    exact ⟨this.1, this.2⟩
theorem xcl_67 : ∀ k, xcl S k 6 0 = 0 ∧ xcl S k 7 0 = 0
  | 0 => ⟨by simp [xcl, sU, upd], by simp [xcl, sU, upd]⟩
  | k + 1 => by
    have := xcl_67 k
    exact ⟨this.1, this.2⟩
theorem xcl_2 : ∀ k, xcl S k 2 = S 2
  | 0 => by simp [xcl, sU]
  | k + 1 => by
    rw [xcl, sU, if_neg (by decide)]
    exact xcl_2 k
theorem xcl_5 : ∀ k, k < 100 → ∀ i, i < k → xcl S k 5 i = 0
  | 0, _, i, hi => absurd hi (Nat.not_lt_zero _)
  | k + 1, hk, i, hi => by
    show upd (xcl S k 5) (nI k).toNatClampNeg 0 i = 0
    rw [nI_clamp (by omega)]
    by_cases e : i = k
    · rw [e, upd_s]
    · rw [upd_n e]
      exact xcl_5 k (by omega) i (by omega)
theorem mcl_5 : ∀ k, k < 100 → ∀ i, i < k → mcl M k 5 i = 0
  | 0, _, i, hi => absurd hi (Nat.not_lt_zero _)
  | k + 1, hk, i, hi => by
    show upd (mcl M k 5) (nI k).toNatClampNeg 0 i = 0
    rw [nI_clamp (by omega)]
    by_cases e : i = k
    · rw [e, upd_s]
    · rw [upd_n e]
      exact mcl_5 k (by omega) i (by omega)
theorem men_same {M M' : Nat → Nat → Int32} (h0 : M' 0 = M 0) (h4 : M' 4 = M 4) (h : ∀ t, mV t → men M 110 t) : ∀ t, mV t → men M' 110 t := by
  have key : ∀ k t, men M k t → men M' k t := by
    intro k
    induction k with
    | zero => intro t ht hc; exact ht ⟨hc.1, by rw [← h0]; exact hc.2⟩
    | succ k ih =>
      intro t ht hc
      have := ih _ (ht ⟨hc.1, by rw [← h0]; exact hc.2⟩)
      unfold mnx at this ⊢
      rw [h4]
      exact this
  exact fun t ht => key 110 t (h t ht)
theorem R_clear (h : Rl n B S N M G) : S 6 0 = M 6 0 ∧ Rl 0 0 (xcl S 6) N (mcl M 6) G := by
  obtain ⟨⟨hn, hB, s6, m6, s7, m7⟩, ⟨m1, m2, m3, m4, m5, m6', m7', m8, m9⟩, h3, ht, h5, h6⟩ := h
  have e : ∀ b, ¬ b = 5 → ¬ b = 6 → ¬ b = 7 → mcl M 6 b = M b := fun b x y z => mcl_ne b x y z 6
  refine ⟨s6.trans m6.symm, ⟨by omega, by omega, (xcl_67 6).1, (mcl_67 6).1, (xcl_67 6).2, (mcl_67 6).2⟩, ⟨?_, ?_, ?_, ?_, ?_, ?_, ?_, ?_, ?_⟩, ?_, ⟨fun t q => absurd q (Nat.not_lt_zero _), fun t q => absurd q (Nat.not_lt_zero _), fun t q => absurd q (Nat.not_lt_zero _)⟩, fun j q => absurd q (Nat.not_lt_zero _), fun k hk => ?_⟩
  · rw [e 0 (by decide) (by decide) (by decide)]; exact m1
  · rw [e 2 (by decide) (by decide) (by decide)]; exact m2
  · rw [e 4 (by decide) (by decide) (by decide)]; exact m3
  · rw [e 11 (by decide) (by decide) (by decide)]; exact m4
  · rw [e 13 (by decide) (by decide) (by decide)]; exact m5
  · rw [e 9 (by decide) (by decide) (by decide)]; exact m6'
  · exact men_same (e 0 (by decide) (by decide) (by decide)) (e 4 (by decide) (by decide) (by decide)) m7'
  · rw [e 14 (by decide) (by decide) (by decide)]; exact m8
  · rw [e 15 (by decide) (by decide) (by decide)]; exact m9
  · rw [xcl_2]; exact h3
  · rw [xcl_5 6 (by omega) k hk, mcl_5 6 (by omega) k hk]
end Ops5
