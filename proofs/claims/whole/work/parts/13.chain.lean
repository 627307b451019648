/-! chains of cases: they end, and within 110 steps -/
theorem pigeon : ∀ (n : Nat) (f : Nat → Nat), (∀ i, i ≤ n → f i < n) → ∃ i j, i < j ∧ j ≤ n ∧ f i = f j
  | 0, f, h => absurd (h 0 (Nat.le_refl 0)) (Nat.not_lt_zero _)
  | n + 1, f, h => by
    by_cases hx : ∃ i, i ≤ n ∧ f i = f (n + 1)
    · obtain ⟨i, hi, e⟩ := hx
      exact ⟨i, n + 1, by omega, Nat.le_refl _, e⟩
    · have hno : ∀ i, i ≤ n → f i ≠ f (n + 1) := fun i hi e => hx ⟨i, hi, e⟩
      obtain ⟨i, j, h1, h2, h3⟩ := pigeon n (fun i => if f i = n then f (n + 1) else f i) (fun i hi => by
        have a1 := h i (by omega)
        have a2 := h (n + 1) (Nat.le_refl _)
        have a3 := hno i hi
        show (if f i = n then f (n + 1) else f i) < n
        by_cases e : f i = n
        · rw [if_pos e]; omega
        · rw [if_neg e]; omega)
      refine ⟨i, j, h1, by omega, ?_⟩
      have b1 := hno i (by omega)
      have b2 := hno j h2
      have h3 : (if f i = n then f (n + 1) else f i) = (if f j = n then f (n + 1) else f j) := h3
      by_cases e1 : f i = n
      · by_cases e2 : f j = n
        · omega
        · rw [if_pos e1, if_neg e2] at h3
          exact absurd h3.symm b2
      · by_cases e2 : f j = n
        · rw [if_neg e1, if_pos e2] at h3
          exact absurd h3 b1
        · rw [if_neg e1, if_neg e2] at h3
          exact h3
/-- what a place of the reference may hold -/
def mV (x : Int32) : Prop := x < 0 ∨ vp_in x 110
theorem mV_C {S : Nat → Nat → Int32} {x : Int32} (h : mV x) (hc : mC S x) : vp_in x 110 := mfl_ge h hc.1
theorem ten {x : Int32} (h : vp_in x 110) : (10 * x).toNatClampNeg = 10 * x.toNatClampNeg := by
  obtain ⟨k, hk, rfl⟩ := vp_in_of h (by omega)
  rw [show (10 : Int32) = nI 10 from rfl, pk_mul, nI_clamp (by omega), nI_clamp (by omega)]
theorem clamp_inj {x y : Int32} {L : Nat} (hx : vp_in x L) (hy : vp_in y L) (hL : L < 2 ^ 31) (e : x.toNatClampNeg = y.toNatClampNeg) : x = y := by
  obtain ⟨k, hk, rfl⟩ := vp_in_of hx hL
  obtain ⟨j, hj, rfl⟩ := vp_in_of hy hL
  rw [nI_clamp (by omega), nI_clamp (by omega)] at e
  rw [e]
theorem men_neg {S : Nat → Nat → Int32} {x : Int32} (h : ¬ mC S x) : ∀ k, men S k x
  | 0 => h
  | _ + 1 => fun hc => absurd hc h
theorem men_up {S : Nat → Nat → Int32} : ∀ (k : Nat) (x : Int32), men S k x → men S (k + 1) x
  | 0, _, h => fun hc => absurd hc h
  | k + 1, x, h => fun hc => men_up k _ (h hc)
/-- the i-th of the chain -/
def mit (S : Nat → Nat → Int32) (x : Int32) : Nat → Int32
  | 0 => x
  | k + 1 => mnx S (mit S x k)
theorem mit_add (S : Nat → Nat → Int32) (x : Int32) (i : Nat) : ∀ m, mit S x (i + m) = mit S (mit S x i) m
  | 0 => rfl
  | m + 1 => by
    show mnx S (mit S x (i + m)) = mnx S (mit S (mit S x i) m)
    rw [mit_add S x i m]
theorem mit_succ (S : Nat → Nat → Int32) (x : Int32) : ∀ m, mit S (mnx S x) m = mit S x (m + 1)
  | 0 => rfl
  | m + 1 => by
    show mnx S (mit S (mnx S x) m) = mnx S (mit S x (m + 1))
    rw [mit_succ S x m]
theorem men_not {S : Nat → Nat → Int32} : ∀ (k : Nat) (x : Int32), ¬ men S k x → ∀ m, m ≤ k → mC S (mit S x m)
  | 0, x, h, m, hm => by
    rw [show m = 0 by omega]
    exact Classical.not_not.mp h
  | k + 1, x, h, m, hm => by
    have hc : mC S x := Classical.byContradiction fun h2 => h fun h3 => absurd h3 h2
    have hn : ¬ men S k (mnx S x) := fun h2 => h fun _ => h2
    rcases m with _ | m
    · exact hc
    · rw [← mit_succ]
      exact men_not k _ hn m (by omega)
theorem mV_nx {S : Nat → Nat → Int32} (hpv : ∀ i, i < 1100 → mV (S 4 i)) {x : Int32} (h : vp_in x 110) : mV (mnx S x) := hpv _ (vin_lt (m10_in h))
theorem men_short {S : Nat → Nat → Int32} (hpv : ∀ i, i < 1100 → mV (S 4 i)) (hend : ∀ x, mV x → ∃ k, men S k x) (x : Int32) (hx : mV x) : men S 110 x := by
  refine Classical.byContradiction fun hno => ?_
  have hC := men_not 110 x hno
  have hv : ∀ m, m ≤ 110 → mV (mit S x m) := by
    intro m
    induction m with
    | zero => intro _; exact hx
    | succ m ih => intro hm; exact mV_nx hpv (mV_C (ih (by omega)) (hC m (by omega)))
  obtain ⟨i, j, hij, hj, e⟩ := pigeon 110 (fun m => (mit S x m).toNatClampNeg) (fun m hm => vin_lt (mV_C (hv m hm) (hC m hm)))
  have e2 : mit S x i = mit S x j := clamp_inj (mV_C (hv i (by omega)) (hC i (by omega))) (mV_C (hv j hj) (hC j hj)) (by omega) e
  have hall : ∀ m, i ≤ m → mC S (mit S x m) := by
    intro m
    induction m using Nat.strongRecOn with
    | _ m ih =>
      intro him
      by_cases hm : m ≤ 110
      · exact hC m hm
      · have : mit S x m = mit S x (i + (m - j)) := by
          rw [show m = j + (m - j) by omega, mit_add, ← e2, ← mit_add, show j + (m - j) - j = m - j by omega]
        rw [this]
        exact ih (i + (m - j)) (by omega) (by omega)
  have hnot : ∀ k m, i ≤ m → ¬ men S k (mit S x m) := by
    intro k
    induction k with
    | zero => intro m hm h; exact h (hall m hm)
    | succ k ih => intro m hm h; exact ih (m + 1) (by omega) (h (hall m hm))
  obtain ⟨k, hk⟩ := hend (mit S x i) (hv i (by omega))
  exact hnot k i (Nat.le_refl i) hk
theorem mnx_at {S : Nat → Nat → Int32} {b v : Int32} (hb : vp_in b 110) : mnx (sU S 4 (10 * b).toNatClampNeg v) b = v := by
  simp [mnx, sU, upd]
theorem mnx_ne {S : Nat → Nat → Int32} {b v x : Int32} (hb : vp_in b 110) (hx : vp_in x 110) (h : ¬ x = b) : mnx (sU S 4 (10 * b).toNatClampNeg v) x = mnx S x := by
  have : ¬ (10 * x).toNatClampNeg = (10 * b).toNatClampNeg := by
    rw [ten hx, ten hb]
    intro e
    exact h (clamp_inj hx hb (by omega) (by omega))
  simp [mnx, sU, upd, this]
theorem pv_put {S : Nat → Nat → Int32} (hpv : ∀ i, i < 1100 → mV (S 4 i)) {k : Nat} {v : Int32} (hv : mV v) : ∀ i, i < 1100 → mV (sU S 4 k v 4 i) := by
  intro i hi
  show mV (upd (S 4) k v i)
  unfold upd
  by_cases e : i = k
  · rw [if_pos e]; exact hv
  · rw [if_neg e]; exact hpv i hi
theorem men_A {S : Nat → Nat → Int32} (hpv : ∀ i, i < 1100 → mV (S 4 i)) {b v : Int32} (hb : vp_in b 110) : ∀ (k : Nat) (y : Int32), mV y → men S k y → ¬ y = b → ¬ mwi S b k y → men (sU S 4 (10 * b).toNatClampNeg v) k y
  | 0, _, _, h, _, _ => h
  | k + 1, y, hy, h, hne, hw => fun hc => by
    have hc' : mC S y := hc
    rw [mnx_ne hb (mV_C hy hc') hne]
    exact men_A hpv hb k _ (mV_nx hpv (mV_C hy hc')) (h hc') (fun e => hw ⟨hc', Or.inl e⟩) (fun e => hw ⟨hc', Or.inr e⟩)
theorem men_B {S : Nat → Nat → Int32} (hpv : ∀ i, i < 1100 → mV (S 4 i)) {b v : Int32} (hb : vp_in b 110) (hv : ∃ k, men (sU S 4 (10 * b).toNatClampNeg v) k v) : ∀ (k : Nat) (y : Int32), mV y → men S k y → ∃ j, men (sU S 4 (10 * b).toNatClampNeg v) j y
  | 0, _, _, h => ⟨0, h⟩
  | k + 1, y, hy, h => by
    by_cases hc : mC S y
    · by_cases e : y = b
      · obtain ⟨j, hj⟩ := hv
        refine ⟨j + 1, fun _ => ?_⟩
        rw [e, mnx_at hb]
        exact hj
      · obtain ⟨j, hj⟩ := men_B hpv hb hv k _ (mV_nx hpv (mV_C hy hc)) (h hc)
        refine ⟨j + 1, fun _ => ?_⟩
        rw [mnx_ne hb (mV_C hy hc) e]
        exact hj
    · exact ⟨0, hc⟩
/-- a case takes a thing that doesn't lead to it: all chains still end -/
theorem men_put {S : Nat → Nat → Int32} (hpv : ∀ i, i < 1100 → mV (S 4 i)) (hen : ∀ t, mV t → men S 110 t) {b t : Int32} (hb : vp_in b 110) (ht : mV t) (hne : ¬ t = b) (hw : ¬ mwi S b 110 t) : ∀ y, mV y → men (sU S 4 (10 * b).toNatClampNeg t) 110 y :=
  men_short (pv_put hpv ht) (fun y hy => men_B hpv hb ⟨110, men_A hpv hb 110 t ht (hen t ht) hne hw⟩ 110 y hy (hen y hy))
/-- a case is emptied -/
theorem men_cut {S : Nat → Nat → Int32} (hpv : ∀ i, i < 1100 → mV (S 4 i)) (hen : ∀ t, mV t → men S 110 t) {b : Int32} (hb : vp_in b 110) : ∀ y, mV y → men (sU S 4 (10 * b).toNatClampNeg (-1)) 110 y :=
  men_short (pv_put hpv (Or.inl (by decide))) (fun y hy => men_B hpv hb ⟨0, fun h => h.1 (by decide)⟩ 110 y hy (hen y hy))
