/-! what the reference's methods say, without the machine -/
def mIn (v lo hi : Int64) : Prop := ¬ lg_cmp v lo < 0 ∧ ¬ 0 < lg_cmp v hi
theorem mIn_iff {v lo hi : Int64} : mIn v lo hi ↔ lo.toInt ≤ v.toInt ∧ v.toInt ≤ hi.toInt := by
  unfold mIn lg_cmp
  simp only [gt_iff_lt, Int64.lt_iff_toInt_lt, ← Int64.toInt_inj]
  constructor
  · intro ⟨h1, h2⟩
    refine ⟨?_, ?_⟩
    · rcases Int.lt_trichotomy v.toInt lo.toInt with h | h | h
      · rw [if_neg (by omega), if_neg (by omega)] at h1
        exact absurd (by decide) h1
      · omega
      · omega
    · rcases Int.lt_trichotomy v.toInt hi.toInt with h | h | h
      · omega
      · omega
      · rw [if_pos h] at h2
        exact absurd (by decide) h2
  · intro ⟨h1, h2⟩
    refine ⟨?_, ?_⟩
    · rcases Int.lt_or_eq_of_le h1 with h | h
      · rw [if_pos h]; decide
      · rw [if_neg (by omega), if_pos h.symm]; decide
    · rcases Int.lt_or_eq_of_le h2 with h | h
      · rw [if_neg (by omega), if_neg (by omega)]; decide
      · rw [if_neg (by omega), if_pos h]; decide
theorem nIm1 {n : Nat} (h : n < 2 ^ 31) : (nI n - 1).toInt = (n : Int) - 1 := by
  rcases n with _ | k
  · decide
  · rw [nI_pred, nI_toInt (by omega)]
    omega
def mT (S : Nat → Nat → Int32) (t : Int32) : Prop := mIn t.toInt64 0 (S 6 0 - 1).toInt64
def mK (S : Nat → Nat → Int32) (t : Int32) : Prop := mT S t ∧ S 0 t.toNatClampNeg = 18
def mLn (S : Nat → Nat → Int32) (l : Int32) : Prop := mIn l.toInt64 0 (S 7 0 - 1).toInt64
def mOf (S : Nat → Nat → Int32) (t k : Int32) : Prop := k = 20 ∨ (S 14 (S 0 t.toNatClampNeg).toNatClampNeg >>> (k &&& 31)) &&& 1 = 1
def mPl (S : Nat → Nat → Int32) (t i : Int32) : Prop := mIn i.toInt64 0 (S 2 t.toNatClampNeg - 1).toInt64
noncomputable def mto (t : Int32) : Int32 := cif (0 ≤ t) t (-5)
noncomputable def mrf (S : Nat → Nat → Int32) (t k lo hi : Int32) : Int32 := cif (mT S t) (cif (mIn k.toInt64 lo.toInt64 hi.toInt64) 0 (-2)) (-1)
noncomputable def mwo (S : Nat → Nat → Int32) (t : Int32) : Int32 := cif (S 0 t.toNatClampNeg = 1) (2 * (S 1 t.toNatClampNeg + 1)) (cif (S 0 t.toNatClampNeg = 2) (2 * (S 1 t.toNatClampNeg + 1) + 100) (S 1 t.toNatClampNeg + 1))
noncomputable def mlo (k : Int32) (v : Int64) : Int64 := cif (k = 5) (v &&& 65535) (cif (k = 6) ((v <<< ((48 : Int32).toInt64 &&& 63)) >>> ((48 : Int32).toInt64 &&& 63)) (cif (k = 7) (v &&& 1) v))
theorem mIn_in {t x : Int32} {n L : Nat} (hx : x = nI n) (hn : n ≤ L) (hL : L < 2 ^ 31) (h : mIn t.toInt64 0 (x - 1).toInt64) : vp_in t L := by
  rw [mIn_iff, Int32.toInt_toInt64, Int32.toInt_toInt64, hx, nIm1 (by omega)] at h
  rw [vp_in_iff]
  have e0 : (0 : Int64).toInt = 0 := by decide
  omega
theorem mT_in {S : Nat → Nat → Int32} {t : Int32} {n : Nat} (hn6 : S 6 0 = nI n) (hn : n ≤ 110) (h : mT S t) : vp_in t 110 := mIn_in hn6 hn (by omega) h
theorem mLn_in {S : Nat → Nat → Int32} {t : Int32} {n : Nat} (hn6 : S 7 0 = nI n) (hn : n ≤ 8) (h : mLn S t) : vp_in t 8 := mIn_in hn6 hn (by omega) h
theorem mrf_T {S : Nat → Nat → Int32} {t k lo hi : Int32} (h : 0 ≤ mrf S t k lo hi) : mT S t ∧ mIn k.toInt64 lo.toInt64 hi.toInt64 := by
  unfold mrf at h
  by_cases h1 : mT S t
  · rw [cif_t h1] at h
    by_cases h2 : mIn k.toInt64 lo.toInt64 hi.toInt64
    · exact ⟨h1, h2⟩
    · rw [cif_f h2] at h
      exact absurd h (by decide)
  · rw [cif_f h1] at h
    exact absurd h (by decide)
theorem vin_lt {t : Int32} {n : Nat} (h : vp_in t n) : t.toNatClampNeg < n := Nat.lt_of_not_le fun h7 => h (Or.inr h7)
theorem mpl_in {t i z : Int32} (ht : vp_in t 110) (h : mIn i.toInt64 0 (z - 1).toInt64) (hz : ∃ n : Nat, n ≤ 10 ∧ z = nI n) : vp_in (10 * t + i) 1100 := by
  obtain ⟨n, hn, hz⟩ := hz
  obtain ⟨k, hk, rfl⟩ := vp_in_of ht (by omega)
  obtain ⟨j, hj, rfl⟩ := vp_in_of (mIn_in hz hn (by omega) h) (by omega)
  rw [show (10 : Int32) = nI 10 from rfl, pk_mul, nI_add]
  exact vp_in_nI (by omega) (by omega)
theorem m10_in {t : Int32} (ht : vp_in t 110) : vp_in (10 * t) 1100 := by
  obtain ⟨k, hk, rfl⟩ := vp_in_of ht (by omega)
  rw [show (10 : Int32) = nI 10 from rfl, pk_mul]
  exact vp_in_nI (by omega) (by omega)
theorem m8_in {l i : Int32} (hl : vp_in l 8) (hi : vp_in i 8) : vp_in (8 * l + i) 64 := by
  obtain ⟨k, hk, rfl⟩ := vp_in_of hl (by omega)
  obtain ⟨j, hj, rfl⟩ := vp_in_of hi (by omega)
  rw [show (8 : Int32) = nI 8 from rfl, pk_mul, nI_add]
  exact vp_in_nI (by omega) (by omega)
def mfl (S : Nat → Nat → Int32) (n : Int32) : Nat → (Nat → Nat → Int32)
  | 0 => S
  | k + 1 => sU (mfl S n k) 4 ((10 * n) + nI k).toNatClampNeg (-1)
theorem mfl_ne (S : Nat → Nat → Int32) (n : Int32) (b : Nat) (hb : ¬ b = 4) : ∀ k, mfl S n k b = S b
  | 0 => rfl
  | k + 1 => by
    rw [mfl, sU, if_neg hb]
    exact mfl_ne S n b hb k
def mgl (G : Nat → Int64) (n : Int32) : Nat → (Nat → Int64)
  | 0 => G
  | k + 1 => vp_updL (mgl G n k) ((10 * n) + nI k).toNatClampNeg 0
def mad (S : Nat → Nat → Int32) (f y z : Int32) : Nat → Nat → Int32 := sU (mfl (sU (sU (sU S 0 (S 6 0).toNatClampNeg f) 1 (S 6 0).toNatClampNeg y) 2 (S 6 0).toNatClampNeg z) (S 6 0) 10) 6 0 (S 6 0 + 1)
/-- a step of the chain goes on from here -/
def mC (S : Nat → Nat → Int32) (t : Int32) : Prop := ¬ t < 0 ∧ S 0 t.toNatClampNeg = 18
def mnx (S : Nat → Nat → Int32) (t : Int32) : Int32 := S 4 (10 * t).toNatClampNeg
/-- the chain from t ends within k steps -/
def men (S : Nat → Nat → Int32) : Nat → Int32 → Prop
  | 0, t => ¬ mC S t
  | k + 1, t => mC S t → men S k (mnx S t)
def mwi (S : Nat → Nat → Int32) (b : Int32) : Nat → Int32 → Prop
  | 0, _ => False
  | k + 1, t => mC S t ∧ (mnx S t = b ∨ mwi S b k (mnx S t))
noncomputable def mde (S : Nat → Nat → Int32) : Nat → Int32 → Int32
  | 0, t => t
  | k + 1, t => cif (mC S t) (mde S k (mnx S t)) t
noncomputable def mdp (S : Nat → Nat → Int32) : Nat → Int32 → Int32 → Int32
  | 0, _, n => n
  | k + 1, t, n => cif (mC S t) (mdp S k (mnx S t) (n + 1)) n
noncomputable def mkn (S : Nat → Nat → Int32) (t : Int32) : Nat → Int32
  | 0 => 0
  | k + 1 => cif (mOf S t (nI k)) (mkn S t k + 1) (mkn S t k + 0)
theorem mfl_ge {t : Int32} (h : t < 0 ∨ vp_in t 110) (h0 : ¬ t < 0) : vp_in t 110 := h.elim (fun h1 => absurd h1 h0) id
theorem mde_in {S : Nat → Nat → Int32} (hpv : ∀ i, i < 1100 → S 4 i < 0 ∨ vp_in (S 4 i) 110) : ∀ (k : Nat) (t : Int32), (t < 0 ∨ vp_in t 110) → mde S k t < 0 ∨ vp_in (mde S k t) 110
  | 0, _, h => h
  | k + 1, t, h => by
    rw [mde]
    by_cases h1 : mC S t
    · rw [cif_t h1]
      exact mde_in hpv k _ (hpv _ (vin_lt (m10_in (mfl_ge h h1.1))))
    · rw [cif_f h1]
      exact h
set_option maxHeartbeats 4000000 in
set_option maxRecDepth 100000 in
theorem c_X2_in (l : Launch) (D : va_G) (kI kJ kL : ClassId) (v : Int64) (lo : Int64) (hi : Int64) : Met l yX2_in wsX2_in ({ frames := 0, cells := 0, slots := 0, locals := 0 }) (q_rP D (xTY kI kJ kL) ([]) [.long v, .long lo, .long hi]) (vp_Si (fun r => (r = 1 ∧ mIn v lo hi) ∨ (r = 0 ∧ ¬ mIn v lo hi))) 0 0 (fun _ => False) := by
  refine Met.ofW (cc := cX2_in) (maxL := 6) (ret := (some .boolean)) (by decide) rfl ?_
  intro p e s m args below meth c s₁ Bd hml hv
  obtain ⟨rfl, hP, hK, hN⟩ := hv
  have hx := Bd.exec
  have hb := Bd.bytes
  have hr := Bd.returns
  have hts := atoms_spec (ws := wsX2_in) Bd.pre
  have hown : s.vm.findClass RX2 = some m.cls := findClass_of_methodNamed Bd.named
  have hlocks := Bd.notSynchronized
  have hl := lv_entry ([.long v, .long lo, .long hi]) (n := 6) (Nat.le_of_ble_eq_true rfl)
  rw [lg_entry_eq]
  generalize (lg_sl ([.long v, .long lo, .long hi]) ++ List.replicate (6 - (lg_sl ([.long v, .long lo, .long hi])).length) Slot.unset).toArray = ls at hl ⊢
  have hl : lv_has ls 6 [(0, .long v), (2, .long lo), (4, .long hi)] := hl
  refine lv_lload_n hx hb dX2_in_0 rfl (lv_at hl 0 rfl) ?_
  refine lv_lload_n hx hb dX2_in_1 rfl (lv_at hl 1 rfl) ?_
  refine W.lcmp hx hb dX2_in_2 ?_
  refine lv_if_lt (tgt := 17) hx hb dX2_in_3 (by decide) (fun c_1 => ?_) (fun c_1 => ?_)
  · refine lv_iconst (v := 0) hx hb dX2_in_17 (by decide) ?_
    exact W.zret (v := 0) hx hb hr rfl (fun t9 ht hW => ⟨0, rfl, (Or.inr ⟨rfl, (fun h9 => h9.1 c_1)⟩), ht⟩) (fun _ h => by cases h) dX2_in_18
  · refine lv_lload_n hx hb dX2_in_6 rfl (lv_at hl 0 rfl) ?_
    refine lv_lload hx hb dX2_in_7 (lv_at hl 2 rfl) ?_
    refine W.lcmp hx hb dX2_in_9 ?_
    refine lv_if_gt (tgt := 17) hx hb dX2_in_10 (by decide) (fun c_2 => ?_) (fun c_2 => ?_)
    · refine lv_iconst (v := 0) hx hb dX2_in_17 (by decide) ?_
      exact W.zret (v := 0) hx hb hr rfl (fun t9 ht hW => ⟨0, rfl, (Or.inr ⟨rfl, (fun h9 => h9.2 c_2)⟩), ht⟩) (fun _ h => by cases h) dX2_in_18
    · refine lv_iconst (v := 1) hx hb dX2_in_13 (by decide) ?_
      refine lv_goto (tgt := 18) hx hb dX2_in_14 (by decide) ?_
      exact W.zret (v := 1) hx hb hr rfl (fun t9 ht hW => ⟨1, rfl, (Or.inl ⟨rfl, ⟨c_1, c_2⟩⟩), ht⟩) (fun _ h => by cases h) dX2_in_18

set_option maxHeartbeats 4000000 in
set_option maxRecDepth 100000 in
theorem c_X2_isThing (l : Launch) (D : va_G) (kI kJ kL : ClassId) (a : Nat → Nat) (S : Nat → Nat → Int32) (G : Nat → Int64) (t : Int32) : Met l yX2_isThing wsX2_isThing ({ frames := 1, cells := 0, slots := 0, locals := 25 }) (q_rP D (xTY kI kJ kL) (mW kI kJ a S G) [.ref (a 0), .int t]) (vp_Si (fun r => (r = 1 ∧ mT S t) ∨ (r = 0 ∧ ¬ mT S t))) 0 0 (fun _ => False) := by
  refine Met.ofW (cc := cX2_isThing) (maxL := 2) (ret := (some .boolean)) (by decide) rfl ?_
  intro p e s m args below meth c s₁ Bd hml hv
  obtain ⟨rfl, hP, hK, hN⟩ := hv
  have hx := Bd.exec
  have hb := Bd.bytes
  have hr := Bd.returns
  have hts := atoms_spec (ws := wsX2_isThing) Bd.pre
  have hown : s.vm.findClass RX2 = some m.cls := findClass_of_methodNamed Bd.named
  have hlocks := Bd.notSynchronized
  have hl := lv_entry ([.ref (a 0), .int t]) (n := 2) (Nat.le_of_ble_eq_true rfl)
  rw [lg_entry_eq]
  generalize (lg_sl ([.ref (a 0), .int t]) ++ List.replicate (2 - (lg_sl ([.ref (a 0), .int t])).length) Slot.unset).toArray = ls at hl ⊢
  have hl : lv_has ls 2 [(0, .ref (a 0)), (1, .int t)] := hl
  have hinX2 : ∀ w ∈ u_ws RX2 TX2 17, w ∈ wsX2_isThing := by decide +kernel
  refine lv_iload_n hx hb dX2_isThing_0 rfl (lv_at hl 1 rfl) ?_
  refine lv_i2l hx hb dX2_isThing_1 rfl ?_
  refine lv_lconst (v := 0) hx hb dX2_isThing_2 (by decide) ?_
  refine lv_aload_n hx hb dX2_isThing_3 rfl (lv_at hl 0 rfl) ?_
  refine va_get (D := D) (ci := 5) (v := .int (S 6 0)) (C := RX2) (T := TX2) (N := 17) hx hb hts hinX2 hown hK hP 0 rfl rfl 1 (by decide) (hts (.fieldLink RX2 63 "LoanCasesModel" "things" "I") (by decide +kernel)) (fun _ h9 => h9) rfl dX2_isThing_4 ?_
  refine lv_iconst (v := 1) hx hb dX2_isThing_7 (by decide) ?_
  refine lv_isub hx hb dX2_isThing_8 ?_
  refine lv_i2l hx hb dX2_isThing_9 rfl ?_
  refine vp_callSi (W.runS (As := [.long (t.toInt64), .long 0, .long (((S 6 0) - 1).toInt64)]) (rest := []) ⟨hx, hb, hml, hown, hts⟩ (c_X2_in l D kI kJ kL (t.toInt64) 0 (((S 6 0) - 1).toInt64)) (va_cwS 3 hts gX2_isThing_X2_in rfl rfl rfl (by decide +kernel) ⟨Nat.le_of_ble_eq_true rfl, Nat.le_of_ble_eq_true rfl⟩) (q_rS0 hK hN) rfl rfl hl.1 rfl (lv_room (Nat.le_of_ble_eq_true rfl)) dX2_isThing_10 ⟨Nat.le_of_ble_eq_true rfl, Nat.le_of_ble_eq_true rfl⟩) (fun r_h_1 h_1 => ?_)
  rcases h_1 with ⟨rfl, h_1⟩ | ⟨rfl, h_1⟩
  · exact W.zret (v := 1) hx hb hr rfl (fun t9 ht hW => ⟨1, rfl, (Or.inl ⟨rfl, h_1⟩), ht⟩) (fun _ h => by cases h) dX2_isThing_13
  · exact W.zret (v := 0) hx hb hr rfl (fun t9 ht hW => ⟨0, rfl, (Or.inr ⟨rfl, h_1⟩), ht⟩) (fun _ h => by cases h) dX2_isThing_13

set_option maxHeartbeats 4000000 in
set_option maxRecDepth 100000 in
theorem c_X2_isCase (l : Launch) (D : va_G) (kI kJ kL : ClassId) (a : Nat → Nat) (S : Nat → Nat → Int32) (G : Nat → Int64) (t : Int32) (n : Nat) (hn6 : S 6 0 = nI n) (hn : n ≤ 110) : Met l yX2_isCase wsX2_isCase ({ frames := 2, cells := 0, slots := 0, locals := 46 }) (q_rP D (xTY kI kJ kL) (mW kI kJ a S G) [.ref (a 0), .int t]) (vp_Si (fun r => (r = 1 ∧ mK S t) ∨ (r = 0 ∧ ¬ mK S t))) 0 0 (fun _ => False) := by
  refine Met.ofW (cc := cX2_isCase) (maxL := 2) (ret := (some .boolean)) (by decide) rfl ?_
  intro p e s m args below meth c s₁ Bd hml hv
  obtain ⟨rfl, hP, hK, hN⟩ := hv
  have hx := Bd.exec
  have hb := Bd.bytes
  have hr := Bd.returns
  have hts := atoms_spec (ws := wsX2_isCase) Bd.pre
  have hown : s.vm.findClass RX2 = some m.cls := findClass_of_methodNamed Bd.named
  have hlocks := Bd.notSynchronized
  have hl := lv_entry ([.ref (a 0), .int t]) (n := 2) (Nat.le_of_ble_eq_true rfl)
  rw [lg_entry_eq]
  generalize (lg_sl ([.ref (a 0), .int t]) ++ List.replicate (2 - (lg_sl ([.ref (a 0), .int t])).length) Slot.unset).toArray = ls at hl ⊢
  have hl : lv_has ls 2 [(0, .ref (a 0)), (1, .int t)] := hl
  have hinX2 : ∀ w ∈ u_ws RX2 TX2 17, w ∈ wsX2_isCase := by decide +kernel
  refine lv_aload_n hx hb dX2_isCase_0 rfl (lv_at hl 0 rfl) ?_
  refine lv_iload_n hx hb dX2_isCase_1 rfl (lv_at hl 1 rfl) ?_
  refine vp_callSi (W.runV (As := [.int t]) (rest := []) ⟨hx, hb, hml, hown, hts⟩ (c_X2_isThing l D kI kJ kL a S G t) (cwV 1 hts gX2_isCase_X2_isThing rfl rfl rfl (by decide +kernel) ⟨Nat.le_of_ble_eq_true rfl, Nat.le_of_ble_eq_true rfl⟩) (q_rV (w2 := []) hK hN (by rw [List.append_nil]; exact hP) (va_recv hK hP (ci := 5) (q0 := 0) rfl rfl)) rfl rfl hl.1 rfl (lv_room (Nat.le_of_ble_eq_true rfl)) dX2_isCase_2 ⟨Nat.le_of_ble_eq_true rfl, Nat.le_of_ble_eq_true rfl⟩) (fun r_h_1 h_1 => ?_)
  rcases h_1 with ⟨rfl, h_1⟩ | ⟨rfl, h_1⟩
  · refine lv_if_eq (tgt := 23) hx hb dX2_isCase_5 (by decide) (fun c_2 => absurd c_2 (by decide)) (fun c_2 => ?_)
    refine lv_aload_n hx hb dX2_isCase_8 rfl (lv_at hl 0 rfl) ?_
    refine va_get (D := D) (ci := 5) (v := .ref (a 1)) (C := RX2) (T := TX2) (N := 17) hx hb hts hinX2 hown hK hP 0 rfl rfl 2 (by decide) (hts (.fieldLink RX2 7 "LoanCasesModel" "forms" "[I") (by decide +kernel)) (fun _ h9 => h9) rfl dX2_isCase_9 ?_
    refine lv_iload_n hx hb dX2_isCase_12 rfl (lv_at hl 1 rfl) ?_
    refine va_iald (f := S 0) hx hb hK hP 1 0 rfl rfl (mT_in hn6 hn h_1) dX2_isCase_13 ?_
    refine lv_bipush (v := 18) hx hb dX2_isCase_14 (by decide) ?_
    refine lv_icmp_ne (tgt := 23) hx hb dX2_isCase_16 (by decide) (fun c_3 => ?_) (fun c_3 => ?_)
    · refine lv_iconst (v := 0) hx hb dX2_isCase_23 (by decide) ?_
      exact W.zret (v := 0) hx hb hr rfl (fun t9 ht hW => ⟨0, rfl, (Or.inr ⟨rfl, (fun h9 => c_3 h9.2)⟩), ht⟩) (fun _ h => by cases h) dX2_isCase_24
    · refine lv_iconst (v := 1) hx hb dX2_isCase_19 (by decide) ?_
      refine lv_goto (tgt := 24) hx hb dX2_isCase_20 (by decide) ?_
      exact W.zret (v := 1) hx hb hr rfl (fun t9 ht hW => ⟨1, rfl, (Or.inl ⟨rfl, ⟨h_1, c_3⟩⟩), ht⟩) (fun _ h => by cases h) dX2_isCase_24
  · refine lv_if_eq (tgt := 23) hx hb dX2_isCase_5 (by decide) (fun c_4 => ?_) (fun c_4 => absurd c_4 (by decide))
    refine lv_iconst (v := 0) hx hb dX2_isCase_23 (by decide) ?_
    exact W.zret (v := 0) hx hb hr rfl (fun t9 ht hW => ⟨0, rfl, (Or.inr ⟨rfl, (fun h9 => h_1 h9.1)⟩), ht⟩) (fun _ h => by cases h) dX2_isCase_24

set_option maxHeartbeats 4000000 in
set_option maxRecDepth 100000 in
theorem c_X2_isLoan (l : Launch) (D : va_G) (kI kJ kL : ClassId) (a : Nat → Nat) (S : Nat → Nat → Int32) (G : Nat → Int64) (l_ : Int32) : Met l yX2_isLoan wsX2_isLoan ({ frames := 1, cells := 0, slots := 0, locals := 25 }) (q_rP D (xTY kI kJ kL) (mW kI kJ a S G) [.ref (a 0), .int l_]) (vp_Si (fun r => (r = 1 ∧ mLn S l_) ∨ (r = 0 ∧ ¬ mLn S l_))) 0 0 (fun _ => False) := by
  refine Met.ofW (cc := cX2_isLoan) (maxL := 2) (ret := (some .boolean)) (by decide) rfl ?_
  intro p e s m args below meth c s₁ Bd hml hv
  obtain ⟨rfl, hP, hK, hN⟩ := hv
  have hx := Bd.exec
  have hb := Bd.bytes
  have hr := Bd.returns
  have hts := atoms_spec (ws := wsX2_isLoan) Bd.pre
  have hown : s.vm.findClass RX2 = some m.cls := findClass_of_methodNamed Bd.named
  have hlocks := Bd.notSynchronized
  have hl := lv_entry ([.ref (a 0), .int l_]) (n := 2) (Nat.le_of_ble_eq_true rfl)
  rw [lg_entry_eq]
  generalize (lg_sl ([.ref (a 0), .int l_]) ++ List.replicate (2 - (lg_sl ([.ref (a 0), .int l_])).length) Slot.unset).toArray = ls at hl ⊢
  have hl : lv_has ls 2 [(0, .ref (a 0)), (1, .int l_)] := hl
  have hinX2 : ∀ w ∈ u_ws RX2 TX2 17, w ∈ wsX2_isLoan := by decide +kernel
  refine lv_iload_n hx hb dX2_isLoan_0 rfl (lv_at hl 1 rfl) ?_
  refine lv_i2l hx hb dX2_isLoan_1 rfl ?_
  refine lv_lconst (v := 0) hx hb dX2_isLoan_2 (by decide) ?_
  refine lv_aload_n hx hb dX2_isLoan_3 rfl (lv_at hl 0 rfl) ?_
  refine va_get (D := D) (ci := 5) (v := .int (S 7 0)) (C := RX2) (T := TX2) (N := 17) hx hb hts hinX2 hown hK hP 0 rfl rfl 9 (by decide) (hts (.fieldLink RX2 74 "LoanCasesModel" "loans" "I") (by decide +kernel)) (fun _ h9 => h9) rfl dX2_isLoan_4 ?_
  refine lv_iconst (v := 1) hx hb dX2_isLoan_7 (by decide) ?_
  refine lv_isub hx hb dX2_isLoan_8 ?_
  refine lv_i2l hx hb dX2_isLoan_9 rfl ?_
  refine vp_callSi (W.runS (As := [.long (l_.toInt64), .long 0, .long (((S 7 0) - 1).toInt64)]) (rest := []) ⟨hx, hb, hml, hown, hts⟩ (c_X2_in l D kI kJ kL (l_.toInt64) 0 (((S 7 0) - 1).toInt64)) (va_cwS 3 hts gX2_isLoan_X2_in rfl rfl rfl (by decide +kernel) ⟨Nat.le_of_ble_eq_true rfl, Nat.le_of_ble_eq_true rfl⟩) (q_rS0 hK hN) rfl rfl hl.1 rfl (lv_room (Nat.le_of_ble_eq_true rfl)) dX2_isLoan_10 ⟨Nat.le_of_ble_eq_true rfl, Nat.le_of_ble_eq_true rfl⟩) (fun r_h_1 h_1 => ?_)
  rcases h_1 with ⟨rfl, h_1⟩ | ⟨rfl, h_1⟩
  · exact W.zret (v := 1) hx hb hr rfl (fun t9 ht hW => ⟨1, rfl, (Or.inl ⟨rfl, h_1⟩), ht⟩) (fun _ h => by cases h) dX2_isLoan_13
  · exact W.zret (v := 0) hx hb hr rfl (fun t9 ht hW => ⟨0, rfl, (Or.inr ⟨rfl, h_1⟩), ht⟩) (fun _ h => by cases h) dX2_isLoan_13

set_option maxHeartbeats 4000000 in
set_option maxRecDepth 100000 in
theorem c_X2_isOf (l : Launch) (D : va_G) (kI kJ kL : ClassId) (a : Nat → Nat) (S : Nat → Nat → Int32) (G : Nat → Int64) (t : Int32) (k : Int32) (ht : vp_in t 110) (hfm : ∀ i, i < 110 → vp_in (S 0 i) 19) : Met l yX2_isOf wsX2_isOf ({ frames := 0, cells := 0, slots := 0, locals := 0 }) (q_rP D (xTY kI kJ kL) (mW kI kJ a S G) [.ref (a 0), .int t, .int k]) (vp_Si (fun r => (r = 1 ∧ mOf S t k) ∨ (r = 0 ∧ ¬ mOf S t k))) 0 0 (fun _ => False) := by
  refine Met.ofW (cc := cX2_isOf) (maxL := 3) (ret := (some .boolean)) (by decide) rfl ?_
  intro p e s m args below meth c s₁ Bd hml hv
  obtain ⟨rfl, hP, hK, hN⟩ := hv
  have hx := Bd.exec
  have hb := Bd.bytes
  have hr := Bd.returns
  have hts := atoms_spec (ws := wsX2_isOf) Bd.pre
  have hown : s.vm.findClass RX2 = some m.cls := findClass_of_methodNamed Bd.named
  have hlocks := Bd.notSynchronized
  have hl := lv_entry ([.ref (a 0), .int t, .int k]) (n := 3) (Nat.le_of_ble_eq_true rfl)
  rw [lg_entry_eq]
  generalize (lg_sl ([.ref (a 0), .int t, .int k]) ++ List.replicate (3 - (lg_sl ([.ref (a 0), .int t, .int k])).length) Slot.unset).toArray = ls at hl ⊢
  have hl : lv_has ls 3 [(0, .ref (a 0)), (1, .int t), (2, .int k)] := hl
  have hinX2 : ∀ w ∈ u_ws RX2 TX2 17, w ∈ wsX2_isOf := by decide +kernel
  refine lv_iload_n hx hb dX2_isOf_0 rfl (lv_at hl 2 rfl) ?_
  refine lv_bipush (v := 20) hx hb dX2_isOf_1 (by decide) ?_
  refine lv_icmp_eq (tgt := 25) hx hb dX2_isOf_3 (by decide) (fun c_1 => ?_) (fun c_1 => ?_)
  · refine lv_iconst (v := 1) hx hb dX2_isOf_25 (by decide) ?_
    refine lv_goto (tgt := 30) hx hb dX2_isOf_26 (by decide) ?_
    exact W.zret (v := 1) hx hb hr rfl (fun t9 ht hW => ⟨1, rfl, (Or.inl ⟨rfl, Or.inl c_1⟩), ht⟩) (fun _ h => by cases h) dX2_isOf_30
  · refine lv_aload_n hx hb dX2_isOf_6 rfl (lv_at hl 0 rfl) ?_
    refine va_get (D := D) (ci := 5) (v := .ref (a 6)) (C := RX2) (T := TX2) (N := 17) hx hb hts hinX2 hown hK hP 0 rfl rfl 7 (by decide) (hts (.fieldLink RX2 32 "LoanCasesModel" "kindsOf" "[I") (by decide +kernel)) (fun _ h9 => h9) rfl dX2_isOf_7 ?_
    refine lv_aload_n hx hb dX2_isOf_10 rfl (lv_at hl 0 rfl) ?_
    refine va_get (D := D) (ci := 5) (v := .ref (a 1)) (C := RX2) (T := TX2) (N := 17) hx hb hts hinX2 hown hK hP 0 rfl rfl 2 (by decide) (hts (.fieldLink RX2 7 "LoanCasesModel" "forms" "[I") (by decide +kernel)) (fun _ h9 => h9) rfl dX2_isOf_11 ?_
    refine lv_iload_n hx hb dX2_isOf_14 rfl (lv_at hl 1 rfl) ?_
    refine va_iald (f := S 0) hx hb hK hP 1 0 rfl rfl ht dX2_isOf_15 ?_
    refine va_iald (f := S 14) hx hb hK hP 6 0 rfl rfl (hfm _ (vin_lt ht)) dX2_isOf_16 ?_
    refine lv_iload_n hx hb dX2_isOf_17 rfl (lv_at hl 2 rfl) ?_
    refine lv_ishr hx hb dX2_isOf_18 ?_
    refine lv_iconst (v := 1) hx hb dX2_isOf_19 (by decide) ?_
    refine lv_iand hx hb dX2_isOf_20 ?_
    refine lv_iconst (v := 1) hx hb dX2_isOf_21 (by decide) ?_
    refine lv_icmp_ne (tgt := 29) hx hb dX2_isOf_22 (by decide) (fun c_2 => ?_) (fun c_2 => ?_)
    · refine lv_iconst (v := 0) hx hb dX2_isOf_29 (by decide) ?_
      exact W.zret (v := 0) hx hb hr rfl (fun t9 ht hW => ⟨0, rfl, (Or.inr ⟨rfl, (fun h9 => h9.elim c_1 c_2)⟩), ht⟩) (fun _ h => by cases h) dX2_isOf_30
    · refine lv_iconst (v := 1) hx hb dX2_isOf_25 (by decide) ?_
      refine lv_goto (tgt := 30) hx hb dX2_isOf_26 (by decide) ?_
      exact W.zret (v := 1) hx hb hr rfl (fun t9 ht hW => ⟨1, rfl, (Or.inl ⟨rfl, Or.inr c_2⟩), ht⟩) (fun _ h => by cases h) dX2_isOf_30

set_option maxHeartbeats 4000000 in
set_option maxRecDepth 100000 in
theorem c_X2_told (l : Launch) (D : va_G) (kI kJ kL : ClassId) (t : Int32) : Met l yX2_told wsX2_told ({ frames := 0, cells := 0, slots := 0, locals := 0 }) (q_rP D (xTY kI kJ kL) ([]) [.int t]) (vp_Si (fun r => r = mto t)) 0 0 (fun _ => False) := by
  refine Met.ofW (cc := cX2_told) (maxL := 1) (ret := (some .int)) (by decide) rfl ?_
  intro p e s m args below meth c s₁ Bd hml hv
  obtain ⟨rfl, hP, hK, hN⟩ := hv
  have hx := Bd.exec
  have hb := Bd.bytes
  have hr := Bd.returns
  have hts := atoms_spec (ws := wsX2_told) Bd.pre
  have hown : s.vm.findClass RX2 = some m.cls := findClass_of_methodNamed Bd.named
  have hlocks := Bd.notSynchronized
  have hl := lv_entry ([.int t]) (n := 1) (Nat.le_of_ble_eq_true rfl)
  rw [lg_entry_eq]
  generalize (lg_sl ([.int t]) ++ List.replicate (1 - (lg_sl ([.int t])).length) Slot.unset).toArray = ls at hl ⊢
  have hl : lv_has ls 1 [(0, .int t)] := hl
  refine lv_iload_n hx hb dX2_told_0 rfl (lv_at hl 0 rfl) ?_
  refine lv_if_ge (tgt := 9) hx hb dX2_told_1 (by decide) (fun c_1 => ?_) (fun c_1 => ?_)
  · refine lv_iload_n hx hb dX2_told_9 rfl (lv_at hl 0 rfl) ?_
    exact W.iret (v := t) hx hb hr (fun t9 ht hW => ⟨t, rfl, (by simp only [mto, cif_t c_1]), ht⟩) (fun _ h => by cases h) dX2_told_10
  · refine lv_bipush (v := -5) hx hb dX2_told_4 (by decide) ?_
    refine lv_goto (tgt := 10) hx hb dX2_told_6 (by decide) ?_
    exact W.iret (v := (-5)) hx hb hr (fun t9 ht hW => ⟨(-5), rfl, (by simp only [mto, cif_f c_1]), ht⟩) (fun _ h => by cases h) dX2_told_10

set_option maxHeartbeats 4000000 in
set_option maxRecDepth 100000 in
theorem c_X2_worthOf (l : Launch) (D : va_G) (kI kJ kL : ClassId) (a : Nat → Nat) (S : Nat → Nat → Int32) (G : Nat → Int64) (t : Int32) (ht : vp_in t 110) : Met l yX2_worthOf wsX2_worthOf ({ frames := 0, cells := 0, slots := 0, locals := 0 }) (q_rP D (xTY kI kJ kL) (mW kI kJ a S G) [.ref (a 0), .int t]) (vp_Si (fun r => r = mwo S t)) 0 0 (fun _ => False) := by
  refine Met.ofW (cc := cX2_worthOf) (maxL := 3) (ret := (some .int)) (by decide) rfl ?_
  intro p e s m args below meth c s₁ Bd hml hv
  obtain ⟨rfl, hP, hK, hN⟩ := hv
  have hx := Bd.exec
  have hb := Bd.bytes
  have hr := Bd.returns
  have hts := atoms_spec (ws := wsX2_worthOf) Bd.pre
  have hown : s.vm.findClass RX2 = some m.cls := findClass_of_methodNamed Bd.named
  have hlocks := Bd.notSynchronized
  have hl := lv_entry ([.ref (a 0), .int t]) (n := 3) (Nat.le_of_ble_eq_true rfl)
  rw [lg_entry_eq]
  generalize (lg_sl ([.ref (a 0), .int t]) ++ List.replicate (3 - (lg_sl ([.ref (a 0), .int t])).length) Slot.unset).toArray = ls at hl ⊢
  have hl : lv_has ls 3 [(0, .ref (a 0)), (1, .int t)] := hl
  have hinX2 : ∀ w ∈ u_ws RX2 TX2 17, w ∈ wsX2_worthOf := by decide +kernel
  refine lv_aload_n hx hb dX2_worthOf_0 rfl (lv_at hl 0 rfl) ?_
  refine va_get (D := D) (ci := 5) (v := .ref (a 2)) (C := RX2) (T := TX2) (N := 17) hx hb hts hinX2 hown hK hP 0 rfl rfl 3 (by decide) (hts (.fieldLink RX2 13 "LoanCasesModel" "years" "[I") (by decide +kernel)) (fun _ h9 => h9) rfl dX2_worthOf_1 ?_
  refine lv_iload_n hx hb dX2_worthOf_4 rfl (lv_at hl 1 rfl) ?_
  refine va_iald (f := S 1) hx hb hK hP 2 0 rfl rfl ht dX2_worthOf_5 ?_
  refine lv_iconst (v := 1) hx hb dX2_worthOf_6 (by decide) ?_
  refine lv_iadd hx hb dX2_worthOf_7 ?_
  refine lv_istore_n (lv' := [(2, .int ((S 1 t.toNatClampNeg) + 1)), (0, .ref (a 0)), (1, .int t)]) hx hb dX2_worthOf_8 rfl hl (by decide) rfl (fun ls hl => ?_)
  refine lv_aload_n hx hb dX2_worthOf_9 rfl (lv_at hl 1 rfl) ?_
  refine va_get (D := D) (ci := 5) (v := .ref (a 1)) (C := RX2) (T := TX2) (N := 17) hx hb hts hinX2 hown hK hP 0 rfl rfl 2 (by decide) (hts (.fieldLink RX2 7 "LoanCasesModel" "forms" "[I") (by decide +kernel)) (fun _ h9 => h9) rfl dX2_worthOf_10 ?_
  refine lv_iload_n hx hb dX2_worthOf_13 rfl (lv_at hl 2 rfl) ?_
  refine va_iald (f := S 0) hx hb hK hP 1 0 rfl rfl ht dX2_worthOf_14 ?_
  refine lv_iconst (v := 1) hx hb dX2_worthOf_15 (by decide) ?_
  refine lv_icmp_ne (tgt := 25) hx hb dX2_worthOf_16 (by decide) (fun c_1 => ?_) (fun c_1 => ?_)
  · refine lv_aload_n hx hb dX2_worthOf_25 rfl (lv_at hl 1 rfl) ?_
    refine va_get (D := D) (ci := 5) (v := .ref (a 1)) (C := RX2) (T := TX2) (N := 17) hx hb hts hinX2 hown hK hP 0 rfl rfl 2 (by decide) (hts (.fieldLink RX2 7 "LoanCasesModel" "forms" "[I") (by decide +kernel)) (fun _ h9 => h9) rfl dX2_worthOf_26 ?_
    refine lv_iload_n hx hb dX2_worthOf_29 rfl (lv_at hl 2 rfl) ?_
    refine va_iald (f := S 0) hx hb hK hP 1 0 rfl rfl ht dX2_worthOf_30 ?_
    refine lv_iconst (v := 2) hx hb dX2_worthOf_31 (by decide) ?_
    refine lv_icmp_ne (tgt := 44) hx hb dX2_worthOf_32 (by decide) (fun c_2 => ?_) (fun c_2 => ?_)
    · refine lv_iload_n hx hb dX2_worthOf_44 rfl (lv_at hl 0 rfl) ?_
      exact W.iret (v := ((S 1 t.toNatClampNeg) + 1)) hx hb hr (fun t9 ht hW => ⟨((S 1 t.toNatClampNeg) + 1), rfl, (by simp only [mwo, cif_f c_1, cif_f c_2]), ht⟩) (fun _ h => by cases h) dX2_worthOf_45
    · refine lv_iconst (v := 2) hx hb dX2_worthOf_35 (by decide) ?_
      refine lv_iload_n hx hb dX2_worthOf_36 rfl (lv_at hl 0 rfl) ?_
      refine lv_imul hx hb dX2_worthOf_37 ?_
      refine lv_bipush (v := 100) hx hb dX2_worthOf_38 (by decide) ?_
      refine lv_iadd hx hb dX2_worthOf_40 ?_
      refine lv_goto (tgt := 45) hx hb dX2_worthOf_41 (by decide) ?_
      exact W.iret (v := ((2 * ((S 1 t.toNatClampNeg) + 1)) + 100)) hx hb hr (fun t9 ht hW => ⟨((2 * ((S 1 t.toNatClampNeg) + 1)) + 100), rfl, (by simp only [mwo, cif_f c_1, cif_t c_2]), ht⟩) (fun _ h => by cases h) dX2_worthOf_45
  · refine lv_iconst (v := 2) hx hb dX2_worthOf_19 (by decide) ?_
    refine lv_iload_n hx hb dX2_worthOf_20 rfl (lv_at hl 0 rfl) ?_
    refine lv_imul hx hb dX2_worthOf_21 ?_
    refine lv_goto (tgt := 45) hx hb dX2_worthOf_22 (by decide) ?_
    exact W.iret (v := (2 * ((S 1 t.toNatClampNeg) + 1))) hx hb hr (fun t9 ht hW => ⟨(2 * ((S 1 t.toNatClampNeg) + 1)), rfl, (by simp only [mwo, cif_t c_1]), ht⟩) (fun _ h => by cases h) dX2_worthOf_45

set_option maxHeartbeats 4000000 in
set_option maxRecDepth 100000 in
theorem c_X2_refusal (l : Launch) (D : va_G) (kI kJ kL : ClassId) (a : Nat → Nat) (S : Nat → Nat → Int32) (G : Nat → Int64) (t : Int32) (k : Int32) (lo : Int32) (hi : Int32) : Met l yX2_refusal wsX2_refusal ({ frames := 2, cells := 0, slots := 0, locals := 46 }) (q_rP D (xTY kI kJ kL) (mW kI kJ a S G) [.ref (a 0), .int t, .int k, .int lo, .int hi]) (vp_Si (fun r => r = mrf S t k lo hi)) 0 0 (fun _ => False) := by
  refine Met.ofW (cc := cX2_refusal) (maxL := 5) (ret := (some .int)) (by decide) rfl ?_
  intro p e s m args below meth c s₁ Bd hml hv
  obtain ⟨rfl, hP, hK, hN⟩ := hv
  have hx := Bd.exec
  have hb := Bd.bytes
  have hr := Bd.returns
  have hts := atoms_spec (ws := wsX2_refusal) Bd.pre
  have hown : s.vm.findClass RX2 = some m.cls := findClass_of_methodNamed Bd.named
  have hlocks := Bd.notSynchronized
  have hl := lv_entry ([.ref (a 0), .int t, .int k, .int lo, .int hi]) (n := 5) (Nat.le_of_ble_eq_true rfl)
  rw [lg_entry_eq]
  generalize (lg_sl ([.ref (a 0), .int t, .int k, .int lo, .int hi]) ++ List.replicate (5 - (lg_sl ([.ref (a 0), .int t, .int k, .int lo, .int hi])).length) Slot.unset).toArray = ls at hl ⊢
  have hl : lv_has ls 5 [(0, .ref (a 0)), (1, .int t), (2, .int k), (3, .int lo), (4, .int hi)] := hl
  have hinX2 : ∀ w ∈ u_ws RX2 TX2 17, w ∈ wsX2_refusal := by decide +kernel
  refine lv_aload_n hx hb dX2_refusal_0 rfl (lv_at hl 0 rfl) ?_
  refine lv_iload_n hx hb dX2_refusal_1 rfl (lv_at hl 1 rfl) ?_
  refine vp_callSi (W.runV (As := [.int t]) (rest := []) ⟨hx, hb, hml, hown, hts⟩ (c_X2_isThing l D kI kJ kL a S G t) (cwV 1 hts gX2_refusal_X2_isThing rfl rfl rfl (by decide +kernel) ⟨Nat.le_of_ble_eq_true rfl, Nat.le_of_ble_eq_true rfl⟩) (q_rV (w2 := []) hK hN (by rw [List.append_nil]; exact hP) (va_recv hK hP (ci := 5) (q0 := 0) rfl rfl)) rfl rfl hl.1 rfl (lv_room (Nat.le_of_ble_eq_true rfl)) dX2_refusal_2 ⟨Nat.le_of_ble_eq_true rfl, Nat.le_of_ble_eq_true rfl⟩) (fun r_h_1 h_1 => ?_)
  rcases h_1 with ⟨rfl, h_1⟩ | ⟨rfl, h_1⟩
  · refine lv_if_ne (tgt := 12) hx hb dX2_refusal_5 (by decide) (fun c_2 => ?_) (fun c_2 => absurd c_2 (by decide))
    refine lv_iload_n hx hb dX2_refusal_12 rfl (lv_at hl 2 rfl) ?_
    refine lv_i2l hx hb dX2_refusal_13 rfl ?_
    refine lv_iload_n hx hb dX2_refusal_14 rfl (lv_at hl 3 rfl) ?_
    refine lv_i2l hx hb dX2_refusal_15 rfl ?_
    refine lv_iload hx hb dX2_refusal_16 (lv_at hl 4 rfl) ?_
    refine lv_i2l hx hb dX2_refusal_18 rfl ?_
    refine vp_callSi (W.runS (As := [.long (k.toInt64), .long (lo.toInt64), .long (hi.toInt64)]) (rest := []) ⟨hx, hb, hml, hown, hts⟩ (c_X2_in l D kI kJ kL (k.toInt64) (lo.toInt64) (hi.toInt64)) (va_cwS 3 hts gX2_refusal_X2_in rfl rfl rfl (by decide +kernel) ⟨Nat.le_of_ble_eq_true rfl, Nat.le_of_ble_eq_true rfl⟩) (q_rS0 hK hN) rfl rfl hl.1 rfl (lv_room (Nat.le_of_ble_eq_true rfl)) dX2_refusal_19 ⟨Nat.le_of_ble_eq_true rfl, Nat.le_of_ble_eq_true rfl⟩) (fun r_h_3 h_3 => ?_)
    rcases h_3 with ⟨rfl, h_3⟩ | ⟨rfl, h_3⟩
    · refine lv_if_ne (tgt := 30) hx hb dX2_refusal_22 (by decide) (fun c_4 => ?_) (fun c_4 => absurd c_4 (by decide))
      refine lv_iconst (v := 0) hx hb dX2_refusal_30 (by decide) ?_
      exact W.iret (v := 0) hx hb hr (fun t9 ht hW => ⟨0, rfl, (by simp only [mrf, cif_t h_1, cif_t h_3]), ht⟩) (fun _ h => by cases h) dX2_refusal_31
    · refine lv_if_ne (tgt := 30) hx hb dX2_refusal_22 (by decide) (fun c_5 => absurd c_5 (by decide)) (fun c_5 => ?_)
      refine lv_bipush (v := -2) hx hb dX2_refusal_25 (by decide) ?_
      refine lv_goto (tgt := 31) hx hb dX2_refusal_27 (by decide) ?_
      exact W.iret (v := (-2)) hx hb hr (fun t9 ht hW => ⟨(-2), rfl, (by simp only [mrf, cif_t h_1, cif_f h_3]), ht⟩) (fun _ h => by cases h) dX2_refusal_31
  · refine lv_if_ne (tgt := 12) hx hb dX2_refusal_5 (by decide) (fun c_6 => absurd c_6 (by decide)) (fun c_6 => ?_)
    refine lv_iconst (v := -1) hx hb dX2_refusal_8 (by decide) ?_
    refine lv_goto (tgt := 31) hx hb dX2_refusal_9 (by decide) ?_
    exact W.iret (v := (-1)) hx hb hr (fun t9 ht hW => ⟨(-1), rfl, (by simp only [mrf, cif_f h_1]), ht⟩) (fun _ h => by cases h) dX2_refusal_31

set_option maxHeartbeats 4000000 in
set_option maxRecDepth 100000 in
theorem c_X2_low (l : Launch) (D : va_G) (kI kJ kL : ClassId) (k : Int32) (v : Int64) : Met l yX2_low wsX2_low ({ frames := 0, cells := 0, slots := 0, locals := 0 }) (q_rP D (xTY kI kJ kL) ([]) [.int k, .long v]) (vp_Sl (fun r => r = mlo k v)) 0 0 (fun _ => False) := by
  refine Met.ofW (cc := cX2_low) (maxL := 3) (ret := (some .long)) (by decide) rfl ?_
  intro p e s m args below meth c s₁ Bd hml hv
  obtain ⟨rfl, hP, hK, hN⟩ := hv
  have hx := Bd.exec
  have hb := Bd.bytes
  have hr := Bd.returns
  have hts := atoms_spec (ws := wsX2_low) Bd.pre
  have hown : s.vm.findClass RX2 = some m.cls := findClass_of_methodNamed Bd.named
  have hlocks := Bd.notSynchronized
  have hl := lv_entry ([.int k, .long v]) (n := 3) (Nat.le_of_ble_eq_true rfl)
  rw [lg_entry_eq]
  generalize (lg_sl ([.int k, .long v]) ++ List.replicate (3 - (lg_sl ([.int k, .long v])).length) Slot.unset).toArray = ls at hl ⊢
  have hl : lv_has ls 3 [(0, .int k), (1, .long v)] := hl
  refine lv_iload_n hx hb dX2_low_0 rfl (lv_at hl 0 rfl) ?_
  refine lv_iconst (v := 5) hx hb dX2_low_1 (by decide) ?_
  refine lv_icmp_ne (tgt := 13) hx hb dX2_low_2 (by decide) (fun c_1 => ?_) (fun c_1 => ?_)
  · refine lv_iload_n hx hb dX2_low_13 rfl (lv_at hl 0 rfl) ?_
    refine lv_bipush (v := 6) hx hb dX2_low_14 (by decide) ?_
    refine lv_icmp_ne (tgt := 29) hx hb dX2_low_16 (by decide) (fun c_2 => ?_) (fun c_2 => ?_)
    · refine lv_iload_n hx hb dX2_low_29 rfl (lv_at hl 0 rfl) ?_
      refine lv_bipush (v := 7) hx hb dX2_low_30 (by decide) ?_
      refine lv_icmp_ne (tgt := 41) hx hb dX2_low_32 (by decide) (fun c_3 => ?_) (fun c_3 => ?_)
      · refine lv_lload_n hx hb dX2_low_41 rfl (lv_at hl 1 rfl) ?_
        exact W.lret (v := v) hx hb hr (fun t9 ht hW => ⟨v, rfl, (by simp only [mlo, cif_f c_1, cif_f c_2, cif_f c_3]), ht⟩) (fun _ h => by cases h) dX2_low_42
      · refine lv_lload_n hx hb dX2_low_35 rfl (lv_at hl 1 rfl) ?_
        refine lv_lconst (v := 1) hx hb dX2_low_36 (by decide) ?_
        refine lv_land hx hb dX2_low_37 ?_
        refine lv_goto (tgt := 42) hx hb dX2_low_38 (by decide) ?_
        exact W.lret (v := (v &&& 1)) hx hb hr (fun t9 ht hW => ⟨(v &&& 1), rfl, (by simp only [mlo, cif_f c_1, cif_f c_2, cif_t c_3]), ht⟩) (fun _ h => by cases h) dX2_low_42
    · refine lv_lload_n hx hb dX2_low_19 rfl (lv_at hl 1 rfl) ?_
      refine lv_bipush (v := 48) hx hb dX2_low_20 (by decide) ?_
      refine lv_lshl hx hb dX2_low_22 rfl ?_
      refine lv_bipush (v := 48) hx hb dX2_low_23 (by decide) ?_
      refine lv_lshr hx hb dX2_low_25 rfl ?_
      refine lv_goto (tgt := 42) hx hb dX2_low_26 (by decide) ?_
      exact W.lret (v := ((v <<< ((48 : Int32).toInt64 &&& 63)) >>> ((48 : Int32).toInt64 &&& 63))) hx hb hr (fun t9 ht hW => ⟨((v <<< ((48 : Int32).toInt64 &&& 63)) >>> ((48 : Int32).toInt64 &&& 63)), rfl, (by simp only [mlo, cif_f c_1, cif_t c_2]), ht⟩) (fun _ h => by cases h) dX2_low_42
  · refine lv_lload_n hx hb dX2_low_5 rfl (lv_at hl 1 rfl) ?_
    refine lv_ldc2 hx hb hown (hts (.constantLong RX2 108 (65535)) (by decide +kernel)) dX2_low_6 ?_
    refine lv_land hx hb dX2_low_9 ?_
    refine lv_goto (tgt := 42) hx hb dX2_low_10 (by decide) ?_
    exact W.lret (v := (v &&& 65535)) hx hb hr (fun t9 ht hW => ⟨(v &&& 65535), rfl, (by simp only [mlo, cif_t c_1]), ht⟩) (fun _ h => by cases h) dX2_low_42

set_option maxHeartbeats 4000000 in
set_option maxRecDepth 100000 in
theorem c_X2_thrown (l : Launch) (D : va_G) (kI kJ kL : ClassId) (a : Nat → Nat) (S : Nat → Nat → Int32) (G : Nat → Int64) : Met l yX2_thrown wsX2_thrown ({ frames := 0, cells := 0, slots := 0, locals := 0 }) (q_rP D (xTY kI kJ kL) (mW kI kJ a S G) [.ref (a 0)]) (vp_Si (fun r => r = S 16 0)) 0 0 (fun _ => False) := by
  refine Met.ofW (cc := cX2_thrown) (maxL := 1) (ret := (some .int)) (by decide) rfl ?_
  intro p e s m args below meth c s₁ Bd hml hv
  obtain ⟨rfl, hP, hK, hN⟩ := hv
  have hx := Bd.exec
  have hb := Bd.bytes
  have hr := Bd.returns
  have hts := atoms_spec (ws := wsX2_thrown) Bd.pre
  have hown : s.vm.findClass RX2 = some m.cls := findClass_of_methodNamed Bd.named
  have hlocks := Bd.notSynchronized
  have hl := lv_entry ([.ref (a 0)]) (n := 1) (Nat.le_of_ble_eq_true rfl)
  rw [lg_entry_eq]
  generalize (lg_sl ([.ref (a 0)]) ++ List.replicate (1 - (lg_sl ([.ref (a 0)])).length) Slot.unset).toArray = ls at hl ⊢
  have hl : lv_has ls 1 [(0, .ref (a 0))] := hl
  have hinX2 : ∀ w ∈ u_ws RX2 TX2 17, w ∈ wsX2_thrown := by decide +kernel
  refine lv_aload_n hx hb dX2_thrown_0 rfl (lv_at hl 0 rfl) ?_
  refine va_get (D := D) (ci := 5) (v := .int (S 16 0)) (C := RX2) (T := TX2) (N := 17) hx hb hts hinX2 hown hK hP 0 rfl rfl 0 (by decide) (hts (.fieldLink RX2 59 "LoanCasesModel" "fault" "I") (by decide +kernel)) (fun _ h9 => h9) rfl dX2_thrown_1 ?_
  exact W.iret (v := (S 16 0)) hx hb hr (fun t9 ht hW => ⟨(S 16 0), rfl, rfl, ht⟩) (fun _ h => by cases h) dX2_thrown_4

set_option maxHeartbeats 4000000 in
set_option maxRecDepth 100000 in
theorem c_X2_heldBy (l : Launch) (D : va_G) (kI kJ kL : ClassId) (a : Nat → Nat) (S : Nat → Nat → Int32) (G : Nat → Int64) (b : Int32) (hb110 : vp_in b 110) : Met l yX2_heldBy wsX2_heldBy ({ frames := 0, cells := 0, slots := 0, locals := 0 }) (q_rP D (xTY kI kJ kL) (mW kI kJ a S G) [.ref (a 0), .int b]) (vp_Si (fun r => r = mnx S b)) 0 0 (fun _ => False) := by
  refine Met.ofW (cc := cX2_heldBy) (maxL := 2) (ret := (some .int)) (by decide) rfl ?_
  intro p e s m args below meth c s₁ Bd hml hv
  obtain ⟨rfl, hP, hK, hN⟩ := hv
  have hx := Bd.exec
  have hb := Bd.bytes
  have hr := Bd.returns
  have hts := atoms_spec (ws := wsX2_heldBy) Bd.pre
  have hown : s.vm.findClass RX2 = some m.cls := findClass_of_methodNamed Bd.named
  have hlocks := Bd.notSynchronized
  have hl := lv_entry ([.ref (a 0), .int b]) (n := 2) (Nat.le_of_ble_eq_true rfl)
  rw [lg_entry_eq]
  generalize (lg_sl ([.ref (a 0), .int b]) ++ List.replicate (2 - (lg_sl ([.ref (a 0), .int b])).length) Slot.unset).toArray = ls at hl ⊢
  have hl : lv_has ls 2 [(0, .ref (a 0)), (1, .int b)] := hl
  have hinX2 : ∀ w ∈ u_ws RX2 TX2 17, w ∈ wsX2_heldBy := by decide +kernel
  refine lv_aload_n hx hb dX2_heldBy_0 rfl (lv_at hl 0 rfl) ?_
  refine va_get (D := D) (ci := 5) (v := .ref (a 5)) (C := RX2) (T := TX2) (N := 17) hx hb hts hinX2 hown hK hP 0 rfl rfl 6 (by decide) (hts (.fieldLink RX2 23 "LoanCasesModel" "places" "[I") (by decide +kernel)) (fun _ h9 => h9) rfl dX2_heldBy_1 ?_
  refine lv_bipush (v := 10) hx hb dX2_heldBy_4 (by decide) ?_
  refine lv_iload_n hx hb dX2_heldBy_6 rfl (lv_at hl 1 rfl) ?_
  refine lv_imul hx hb dX2_heldBy_7 ?_
  refine va_iald (f := S 4) hx hb hK hP 5 0 rfl rfl (m10_in hb110) dX2_heldBy_8 ?_
  exact W.iret (v := (S 4 (10 * b).toNatClampNeg)) hx hb hr (fun t9 ht hW => ⟨(S 4 (10 * b).toNatClampNeg), rfl, rfl, ht⟩) (fun _ h => by cases h) dX2_heldBy_9

set_option maxHeartbeats 4000000 in
set_option maxRecDepth 100000 in
theorem c_X2_isWithin (l : Launch) (D : va_G) (kI kJ kL : ClassId) (a : Nat → Nat) (S : Nat → Nat → Int32) (G : Nat → Int64) (b : Int32) (t : Int32) (htv : t < 0 ∨ vp_in t 110) (hpv : ∀ i, i < 1100 → S 4 i < 0 ∨ vp_in (S 4 i) 110) (hent : men S 110 t) : Met l yX2_isWithin wsX2_isWithin ({ frames := 1, cells := 0, slots := 0, locals := 21 }) (q_rP D (xTY kI kJ kL) (mW kI kJ a S G) [.ref (a 0), .int b, .int t]) (vp_Si (fun r => (r = 1 ∧ mwi S b 110 t) ∨ (r = 0 ∧ ¬ mwi S b 110 t))) 0 0 (fun _ => False) := by
  refine Met.ofW (cc := cX2_isWithin) (maxL := 4) (ret := (some .boolean)) (by decide) rfl ?_
  intro p e s m args below meth c s₁ Bd hml hv
  obtain ⟨rfl, hP, hK, hN⟩ := hv
  have hx := Bd.exec
  have hb := Bd.bytes
  have hr := Bd.returns
  have hts := atoms_spec (ws := wsX2_isWithin) Bd.pre
  have hown : s.vm.findClass RX2 = some m.cls := findClass_of_methodNamed Bd.named
  have hlocks := Bd.notSynchronized
  have hl := lv_entry ([.ref (a 0), .int b, .int t]) (n := 4) (Nat.le_of_ble_eq_true rfl)
  rw [lg_entry_eq]
  generalize (lg_sl ([.ref (a 0), .int b, .int t]) ++ List.replicate (4 - (lg_sl ([.ref (a 0), .int b, .int t])).length) Slot.unset).toArray = ls at hl ⊢
  have hl : lv_has ls 4 [(0, .ref (a 0)), (1, .int b), (2, .int t)] := hl
  have hinX2 : ∀ w ∈ u_ws RX2 TX2 17, w ∈ wsX2_isWithin := by decide +kernel
  refine lv_iload_n hx hb dX2_isWithin_0 rfl (lv_at hl 2 rfl) ?_
  refine lv_istore_n (lv' := [(3, .int t), (0, .ref (a 0)), (1, .int b), (2, .int t)]) hx hb dX2_isWithin_1 rfl hl (by decide) rfl (fun ls hl => ?_)
  have loop2 : ∀ (n2 : Nat) (k : Nat) (x3 : Int32), (k < n2) → (mwi S b k x3 = mwi S b 110 t) → (men S k x3) → (x3 < 0 ∨ vp_in x3 110) → ∀ (ls : Array Slot), lv_has ls 4 [(0, .ref (a 0)), (1, .int b), (2, .int t), (3, .int x3)] → W p l e ({ frames := 1, cells := 0, slots := 0, locals := 21 }) s m ([.ref (a 0), .int b, .int t] : List Value).toArray below meth c s.heap [] 0 0 (MQ below (vp_Si (fun r => (r = 1 ∧ mwi S b 110 t) ∨ (r = 0 ∧ ¬ mwi S b 110 t))) ([.ref (a 0), .int b, .int t] : List Value).toArray s 0 0 (fun _ => False)) (F0 m 2 ls []) := by
    intro n2
    induction n2 with
    | zero =>
      intro k x3 hf hv hen hxv
      exact absurd hf (by omega)
    | succ n2 ih2 =>
      intro k x3 hf hv hen hxv ls hl
      refine lv_iload_n hx hb dX2_isWithin_2 rfl (lv_at hl 3 rfl) ?_
      refine lv_if_lt (tgt := 30) hx hb dX2_isWithin_3 (by decide) (fun c_1 => ?_) (fun c_1 => ?_)
      · have hnC : ¬ mC S x3 := fun h7 => h7.1 c_1
        have hE : ¬ mwi S b 110 t := by
          rw [← hv]
          rcases k with _ | k
          · exact id
          · exact fun h7 => hnC h7.1
        refine lv_iconst (v := 0) hx hb dX2_isWithin_30 (by decide) ?_
        exact W.zret (v := 0) hx hb hr rfl (fun t9 ht hW => ⟨0, rfl, (Or.inr ⟨rfl, hE⟩), ht⟩) (fun _ h => by cases h) dX2_isWithin_31
      · have hx110 : vp_in x3 110 := mfl_ge hxv c_1
        refine lv_aload_n hx hb dX2_isWithin_6 rfl (lv_at hl 0 rfl) ?_
        refine va_get (D := D) (ci := 5) (v := .ref (a 1)) (C := RX2) (T := TX2) (N := 17) hx hb hts hinX2 hown hK hP 0 rfl rfl 2 (by decide) (hts (.fieldLink RX2 7 "LoanCasesModel" "forms" "[I") (by decide +kernel)) (fun _ h9 => h9) rfl dX2_isWithin_7 ?_
        refine lv_iload_n hx hb dX2_isWithin_10 rfl (lv_at hl 3 rfl) ?_
        refine va_iald (f := S 0) hx hb hK hP 1 0 rfl rfl hx110 dX2_isWithin_11 ?_
        refine lv_bipush (v := 18) hx hb dX2_isWithin_12 (by decide) ?_
        refine lv_icmp_ne (tgt := 30) hx hb dX2_isWithin_14 (by decide) (fun c_2 => ?_) (fun c_2 => ?_)
        · have hnC : ¬ mC S x3 := fun h7 => c_2 h7.2
          have hE : ¬ mwi S b 110 t := by
            rw [← hv]
            rcases k with _ | k
            · exact id
            · exact fun h7 => hnC h7.1
          refine lv_iconst (v := 0) hx hb dX2_isWithin_30 (by decide) ?_
          exact W.zret (v := 0) hx hb hr rfl (fun t9 ht hW => ⟨0, rfl, (Or.inr ⟨rfl, hE⟩), ht⟩) (fun _ h => by cases h) dX2_isWithin_31
        · have hC : mC S x3 := ⟨c_1, c_2⟩
          have hnv := hpv _ (vin_lt (m10_in hx110))
          rcases k with _ | k
          · exact absurd hC hen
          have hen := hen hC
          rw [mwi] at hv
          refine lv_aload_n hx hb dX2_isWithin_17 rfl (lv_at hl 0 rfl) ?_
          refine lv_iload_n hx hb dX2_isWithin_18 rfl (lv_at hl 3 rfl) ?_
          refine vp_callSi (W.runV (As := [.int x3]) (rest := []) ⟨hx, hb, hml, hown, hts⟩ (c_X2_heldBy l D kI kJ kL a S G x3 hx110) (cwV 1 hts gX2_isWithin_X2_heldBy rfl rfl rfl (by decide +kernel) ⟨Nat.le_of_ble_eq_true rfl, Nat.le_of_ble_eq_true rfl⟩) (q_rV (w2 := []) hK hN (by rw [List.append_nil]; exact hP) (va_recv hK hP (ci := 5) (q0 := 0) rfl rfl)) rfl rfl hl.1 rfl (lv_room (Nat.le_of_ble_eq_true rfl)) dX2_isWithin_19 ⟨Nat.le_of_ble_eq_true rfl, Nat.le_of_ble_eq_true rfl⟩) (fun r_4 h_3 => ?_)
          subst h_3
          refine lv_istore_n (lv' := [(3, .int (mnx S x3)), (0, .ref (a 0)), (1, .int b), (2, .int t)]) hx hb dX2_isWithin_22 rfl hl (by decide) rfl (fun ls hl => ?_)
          refine lv_iload_n hx hb dX2_isWithin_23 rfl (lv_at hl 0 rfl) ?_
          refine lv_iload_n hx hb dX2_isWithin_24 rfl (lv_at hl 2 rfl) ?_
          refine lv_icmp_ne (tgt := 2) hx hb dX2_isWithin_25 (by decide) (fun c_5 => ?_) (fun c_5 => ?_)
          · rw [show (mC S x3 ∧ (mnx S x3 = b ∨ mwi S b k (mnx S x3))) = mwi S b k (mnx S x3) from propext ⟨fun h7 => h7.2.elim (fun h6 => absurd h6 c_5) id, fun h7 => ⟨hC, Or.inr h7⟩⟩] at hv
            exact ih2 k (mnx S x3) (by omega) hv hen hnv ls (lv_sub hl [1, 2, 3, 0] rfl)
          · have hE : mwi S b 110 t := by rw [← hv]; exact ⟨hC, Or.inl c_5⟩
            refine lv_iconst (v := 1) hx hb dX2_isWithin_28 (by decide) ?_
            exact W.zret (v := 1) hx hb hr rfl (fun t9 ht hW => ⟨1, rfl, (Or.inl ⟨rfl, hE⟩), ht⟩) (fun _ h => by cases h) dX2_isWithin_29
  exact loop2 111 110 t (by omega) rfl hent htv ls (lv_sub hl [1, 2, 3, 0] rfl)

set_option maxHeartbeats 4000000 in
set_option maxRecDepth 100000 in
theorem c_X2_deepest (l : Launch) (D : va_G) (kI kJ kL : ClassId) (a : Nat → Nat) (S : Nat → Nat → Int32) (G : Nat → Int64) (b : Int32) (hb110 : vp_in b 110) (hpv : ∀ i, i < 1100 → S 4 i < 0 ∨ vp_in (S 4 i) 110) (hent : men S 110 (mnx S b)) : Met l yX2_deepest wsX2_deepest ({ frames := 1, cells := 0, slots := 0, locals := 21 }) (q_rP D (xTY kI kJ kL) (mW kI kJ a S G) [.ref (a 0), .int b]) (vp_Si (fun r => r = mde S 110 (mnx S b))) 0 0 (fun _ => False) := by
  refine Met.ofW (cc := cX2_deepest) (maxL := 3) (ret := (some .int)) (by decide) rfl ?_
  intro p e s m args below meth c s₁ Bd hml hv
  obtain ⟨rfl, hP, hK, hN⟩ := hv
  have hx := Bd.exec
  have hb := Bd.bytes
  have hr := Bd.returns
  have hts := atoms_spec (ws := wsX2_deepest) Bd.pre
  have hown : s.vm.findClass RX2 = some m.cls := findClass_of_methodNamed Bd.named
  have hlocks := Bd.notSynchronized
  have hl := lv_entry ([.ref (a 0), .int b]) (n := 3) (Nat.le_of_ble_eq_true rfl)
  rw [lg_entry_eq]
  generalize (lg_sl ([.ref (a 0), .int b]) ++ List.replicate (3 - (lg_sl ([.ref (a 0), .int b])).length) Slot.unset).toArray = ls at hl ⊢
  have hl : lv_has ls 3 [(0, .ref (a 0)), (1, .int b)] := hl
  have hinX2 : ∀ w ∈ u_ws RX2 TX2 17, w ∈ wsX2_deepest := by decide +kernel
  refine lv_aload_n hx hb dX2_deepest_0 rfl (lv_at hl 0 rfl) ?_
  refine lv_iload_n hx hb dX2_deepest_1 rfl (lv_at hl 1 rfl) ?_
  refine vp_callSi (W.runV (As := [.int b]) (rest := []) ⟨hx, hb, hml, hown, hts⟩ (c_X2_heldBy l D kI kJ kL a S G b hb110) (cwV 1 hts gX2_deepest_X2_heldBy rfl rfl rfl (by decide +kernel) ⟨Nat.le_of_ble_eq_true rfl, Nat.le_of_ble_eq_true rfl⟩) (q_rV (w2 := []) hK hN (by rw [List.append_nil]; exact hP) (va_recv hK hP (ci := 5) (q0 := 0) rfl rfl)) rfl rfl hl.1 rfl (lv_room (Nat.le_of_ble_eq_true rfl)) dX2_deepest_2 ⟨Nat.le_of_ble_eq_true rfl, Nat.le_of_ble_eq_true rfl⟩) (fun r_2 h_1 => ?_)
  subst h_1
  refine lv_istore_n (lv' := [(2, .int (mnx S b)), (0, .ref (a 0)), (1, .int b)]) hx hb dX2_deepest_5 rfl hl (by decide) rfl (fun ls hl => ?_)
  have loop6 : ∀ (n6 : Nat) (k : Nat) (x2 : Int32), (k < n6) → (mde S k x2 = mde S 110 (mnx S b)) → (men S k x2) → (x2 < 0 ∨ vp_in x2 110) → ∀ (ls : Array Slot), lv_has ls 3 [(0, .ref (a 0)), (1, .int b), (2, .int x2)] → W p l e ({ frames := 1, cells := 0, slots := 0, locals := 21 }) s m ([.ref (a 0), .int b] : List Value).toArray below meth c s.heap [] 0 0 (MQ below (vp_Si (fun r => r = mde S 110 (mnx S b))) ([.ref (a 0), .int b] : List Value).toArray s 0 0 (fun _ => False)) (F0 m 6 ls []) := by
    intro n6
    induction n6 with
    | zero =>
      intro k x2 hf hv hen hxv
      exact absurd hf (by omega)
    | succ n6 ih6 =>
      intro k x2 hf hv hen hxv ls hl
      refine lv_iload_n hx hb dX2_deepest_6 rfl (lv_at hl 2 rfl) ?_
      refine lv_if_lt (tgt := 30) hx hb dX2_deepest_7 (by decide) (fun c_3 => ?_) (fun c_3 => ?_)
      · have hnC : ¬ mC S x2 := fun h7 => h7.1 c_3
        have hE : x2 = mde S 110 (mnx S b) := by
          rw [← hv]
          rcases k with _ | k
          · rfl
          · rw [mde, cif_f hnC]
        refine lv_iload_n hx hb dX2_deepest_30 rfl (lv_at hl 2 rfl) ?_
        exact W.iret (v := x2) hx hb hr (fun t9 ht hW => ⟨x2, rfl, hE, ht⟩) (fun _ h => by cases h) dX2_deepest_31
      · have hx110 : vp_in x2 110 := mfl_ge hxv c_3
        refine lv_aload_n hx hb dX2_deepest_10 rfl (lv_at hl 0 rfl) ?_
        refine va_get (D := D) (ci := 5) (v := .ref (a 1)) (C := RX2) (T := TX2) (N := 17) hx hb hts hinX2 hown hK hP 0 rfl rfl 2 (by decide) (hts (.fieldLink RX2 7 "LoanCasesModel" "forms" "[I") (by decide +kernel)) (fun _ h9 => h9) rfl dX2_deepest_11 ?_
        refine lv_iload_n hx hb dX2_deepest_14 rfl (lv_at hl 2 rfl) ?_
        refine va_iald (f := S 0) hx hb hK hP 1 0 rfl rfl hx110 dX2_deepest_15 ?_
        refine lv_bipush (v := 18) hx hb dX2_deepest_16 (by decide) ?_
        refine lv_icmp_ne (tgt := 30) hx hb dX2_deepest_18 (by decide) (fun c_4 => ?_) (fun c_4 => ?_)
        · have hnC : ¬ mC S x2 := fun h7 => c_4 h7.2
          have hE : x2 = mde S 110 (mnx S b) := by
            rw [← hv]
            rcases k with _ | k
            · rfl
            · rw [mde, cif_f hnC]
          refine lv_iload_n hx hb dX2_deepest_30 rfl (lv_at hl 2 rfl) ?_
          exact W.iret (v := x2) hx hb hr (fun t9 ht hW => ⟨x2, rfl, hE, ht⟩) (fun _ h => by cases h) dX2_deepest_31
        · have hC : mC S x2 := ⟨c_3, c_4⟩
          have hnv := hpv _ (vin_lt (m10_in hx110))
          rcases k with _ | k
          · exact absurd hC hen
          have hen := hen hC
          rw [mde, cif_t hC] at hv
          refine lv_aload_n hx hb dX2_deepest_21 rfl (lv_at hl 0 rfl) ?_
          refine lv_iload_n hx hb dX2_deepest_22 rfl (lv_at hl 2 rfl) ?_
          refine vp_callSi (W.runV (As := [.int x2]) (rest := []) ⟨hx, hb, hml, hown, hts⟩ (c_X2_heldBy l D kI kJ kL a S G x2 hx110) (cwV 1 hts gX2_deepest_X2_heldBy rfl rfl rfl (by decide +kernel) ⟨Nat.le_of_ble_eq_true rfl, Nat.le_of_ble_eq_true rfl⟩) (q_rV (w2 := []) hK hN (by rw [List.append_nil]; exact hP) (va_recv hK hP (ci := 5) (q0 := 0) rfl rfl)) rfl rfl hl.1 rfl (lv_room (Nat.le_of_ble_eq_true rfl)) dX2_deepest_23 ⟨Nat.le_of_ble_eq_true rfl, Nat.le_of_ble_eq_true rfl⟩) (fun r_6 h_5 => ?_)
          subst h_5
          refine lv_istore_n (lv' := [(2, .int (mnx S x2)), (0, .ref (a 0)), (1, .int b)]) hx hb dX2_deepest_26 rfl hl (by decide) rfl (fun ls hl => ?_)
          refine lv_goto (tgt := 6) hx hb dX2_deepest_27 (by decide) ?_
          exact ih6 k (mnx S x2) (by omega) hv hen hnv ls (lv_sub hl [1, 2, 0] rfl)
  exact loop6 111 110 (mnx S b) (by omega) rfl hent (hpv _ (vin_lt (m10_in hb110))) ls (lv_sub hl [1, 2, 0] rfl)

set_option maxHeartbeats 4000000 in
set_option maxRecDepth 100000 in
theorem c_X2_found (l : Launch) (D : va_G) (kI kJ kL : ClassId) (a : Nat → Nat) (S : Nat → Nat → Int32) (G : Nat → Int64) (sz : Nat) (f : Int32) (hf6 : vp_in f 6) : Met l yX2_found wsX2_found ({ frames := 0, cells := 0, slots := 0, locals := 0 }) (q_wP D (xTY kI kJ kL) (mW kI kJ a S G) sz [.ref (a 0), .int f]) (va_Qi (fun r (u : (Nat → Nat → Int32) × (Nat → Int64)) => r = -30 - f ∧ u = (xfd S f, G)) (q_wB D (xTY kI kJ kL) (mW kI kJ a S G) sz (fun u : (Nat → Nat → Int32) × (Nat → Int64) => mW kI kJ a u.1 u.2)) (va_A (mW kI kJ a S G) sz)) 0 0 (va_A (mW kI kJ a S G) sz) := by
  refine Met.ofW (cc := cX2_found) (maxL := 2) (ret := (some .int)) (by decide) rfl ?_
  intro p e s m args below meth c s₁ Bd hml hv
  obtain ⟨rfl, hsz, hP, hK, hD0, hN⟩ := hv
  have hx := Bd.exec
  have hb := Bd.bytes
  have hr := Bd.returns
  have hts := atoms_spec (ws := wsX2_found) Bd.pre
  have hown : s.vm.findClass RX2 = some m.cls := findClass_of_methodNamed Bd.named
  have hlocks := Bd.notSynchronized
  subst hsz
  have hD := hD0.self (sz := s.heap.size)
  generalize hAe : va_A (mW kI kJ a S G) s.heap.size = A at hD ⊢
  have hA : ∀ q : Nat, s.heap.size ≤ q → A q := fun q h => by rw [← hAe]; exact Or.inr h
  have hS : va_S A s.heap s.heap [] := va_S.rf
  have hl := lv_entry ([.ref (a 0), .int f]) (n := 2) (Nat.le_of_ble_eq_true rfl)
  rw [lg_entry_eq]
  generalize (lg_sl ([.ref (a 0), .int f]) ++ List.replicate (2 - (lg_sl ([.ref (a 0), .int f])).length) Slot.unset).toArray = ls at hl ⊢
  have hl : lv_has ls 2 [(0, .ref (a 0)), (1, .int f)] := hl
  have hinX2 : ∀ w ∈ u_ws RX2 TX2 17, w ∈ wsX2_found := by decide +kernel
  refine lv_aload_n hx hb dX2_found_0 rfl (lv_at hl 0 rfl) ?_
  refine va_get (D := D) (ci := 5) (v := .ref (a 14)) (C := RX2) (T := TX2) (N := 17) hx hb hts hinX2 hown hK hP 0 rfl rfl 16 (by decide) (hts (.fieldLink RX2 56 "LoanCasesModel" "findings" "[I") (by decide +kernel)) (fun _ h9 => h9) rfl dX2_found_1 ?_
  refine lv_iload_n hx hb dX2_found_4 rfl (lv_at hl 1 rfl) ?_
  refine lv_dup2_11 hx hb dX2_found_5 rfl rfl ?_
  refine va_iald (f := S 5) hx hb hK hP 14 0 rfl rfl hf6 dX2_found_6 ?_
  refine lv_iconst (v := 1) hx hb dX2_found_7 (by decide) ?_
  refine lv_iadd hx hb dX2_found_8 ?_
  refine va_iast hx hb hK hP hD hS 14 0 rfl rfl hf6 dX2_found_9 (fun H locs hP hD hS => ?_)
  have hP : va_P D vwCl (mW kI kJ a (sU S 5 f.toNatClampNeg ((S 5 f.toNatClampNeg) + 1)) G) H := hP
  have hD : va_D A (mW kI kJ a (sU S 5 f.toNatClampNeg ((S 5 f.toNatClampNeg) + 1)) G) := hD
  refine lv_bipush (v := -30) hx hb dX2_found_10 (by decide) ?_
  refine lv_iload_n hx hb dX2_found_12 rfl (lv_at hl 1 rfl) ?_
  refine lv_isub hx hb dX2_found_13 ?_
  exact W.iret (v := ((-30) - f)) hx hb hr (fun t9 ht hW => ⟨⟨((-30) - f), ((sU S 5 f.toNatClampNeg ((S 5 f.toNatClampNeg) + 1)), G), rfl, ⟨rfl, rfl⟩, by rw [ht]; exact hP, va_K.moved hW.alike hK, by rw [hAe]; exact hD⟩, hS.F ht⟩) hS.2.2 dX2_found_14

set_option maxHeartbeats 4000000 in
set_option maxRecDepth 100000 in
theorem c_X2_stuck (l : Launch) (D : va_G) (kI kJ kL : ClassId) (a : Nat → Nat) (S : Nat → Nat → Int32) (G : Nat → Int64) (sz : Nat) (l_ : Int32) (w : Int32) (f : Int32) (hl8 : vp_in l_ 8) (hf6 : vp_in f 6) : Met l yX2_stuck wsX2_stuck ({ frames := 1, cells := 0, slots := 0, locals := 21 }) (q_wP D (xTY kI kJ kL) (mW kI kJ a S G) sz [.ref (a 0), .int l_, .int w, .int f]) (va_Qi (fun r (u : (Nat → Nat → Int32) × (Nat → Int64)) => r = -30 - f ∧ u = (xfd (sU (sU S 8 l_.toNatClampNeg 1) 10 l_.toNatClampNeg w) f, G)) (q_wB D (xTY kI kJ kL) (mW kI kJ a S G) sz (fun u : (Nat → Nat → Int32) × (Nat → Int64) => mW kI kJ a u.1 u.2)) (va_A (mW kI kJ a S G) sz)) 0 0 (va_A (mW kI kJ a S G) sz) := by
  refine Met.ofW (cc := cX2_stuck) (maxL := 4) (ret := (some .int)) (by decide) rfl ?_
  intro p e s m args below meth c s₁ Bd hml hv
  obtain ⟨rfl, hsz, hP, hK, hD0, hN⟩ := hv
  have hx := Bd.exec
  have hb := Bd.bytes
  have hr := Bd.returns
  have hts := atoms_spec (ws := wsX2_stuck) Bd.pre
  have hown : s.vm.findClass RX2 = some m.cls := findClass_of_methodNamed Bd.named
  have hlocks := Bd.notSynchronized
  subst hsz
  have hD := hD0.self (sz := s.heap.size)
  generalize hAe : va_A (mW kI kJ a S G) s.heap.size = A at hD ⊢
  have hA : ∀ q : Nat, s.heap.size ≤ q → A q := fun q h => by rw [← hAe]; exact Or.inr h
  have hS : va_S A s.heap s.heap [] := va_S.rf
  have hl := lv_entry ([.ref (a 0), .int l_, .int w, .int f]) (n := 4) (Nat.le_of_ble_eq_true rfl)
  rw [lg_entry_eq]
  generalize (lg_sl ([.ref (a 0), .int l_, .int w, .int f]) ++ List.replicate (4 - (lg_sl ([.ref (a 0), .int l_, .int w, .int f])).length) Slot.unset).toArray = ls at hl ⊢
  have hl : lv_has ls 4 [(0, .ref (a 0)), (1, .int l_), (2, .int w), (3, .int f)] := hl
  have hinX2 : ∀ w ∈ u_ws RX2 TX2 17, w ∈ wsX2_stuck := by decide +kernel
  refine lv_aload_n hx hb dX2_stuck_0 rfl (lv_at hl 0 rfl) ?_
  refine va_get (D := D) (ci := 5) (v := .ref (a 8)) (C := RX2) (T := TX2) (N := 17) hx hb hts hinX2 hown hK hP 0 rfl rfl 10 (by decide) (hts (.fieldLink RX2 38 "LoanCasesModel" "states" "[I") (by decide +kernel)) (fun _ h9 => h9) rfl dX2_stuck_1 ?_
  refine lv_iload_n hx hb dX2_stuck_4 rfl (lv_at hl 1 rfl) ?_
  refine lv_iconst (v := 1) hx hb dX2_stuck_5 (by decide) ?_
  refine va_iast hx hb hK hP hD hS 8 0 rfl rfl hl8 dX2_stuck_6 (fun H locs hP hD hS => ?_)
  have hP : va_P D vwCl (mW kI kJ a (sU S 8 l_.toNatClampNeg 1) G) H := hP
  have hD : va_D A (mW kI kJ a (sU S 8 l_.toNatClampNeg 1) G) := hD
  refine lv_aload_n hx hb dX2_stuck_7 rfl (lv_at hl 0 rfl) ?_
  refine va_get (D := D) (ci := 5) (v := .ref (a 10)) (C := RX2) (T := TX2) (N := 17) hx hb hts hinX2 hown hK hP 0 rfl rfl 12 (by decide) (hts (.fieldLink RX2 44 "LoanCasesModel" "stuckAt" "[I") (by decide +kernel)) (fun _ h9 => h9) rfl dX2_stuck_8 ?_
  refine lv_iload_n hx hb dX2_stuck_11 rfl (lv_at hl 1 rfl) ?_
  refine lv_iload_n hx hb dX2_stuck_12 rfl (lv_at hl 2 rfl) ?_
  refine va_iast hx hb hK hP hD hS 10 0 rfl rfl hl8 dX2_stuck_13 (fun H locs hP hD hS => ?_)
  have hP : va_P D vwCl (mW kI kJ a (sU (sU S 8 l_.toNatClampNeg 1) 10 l_.toNatClampNeg w) G) H := hP
  have hD : va_D A (mW kI kJ a (sU (sU S 8 l_.toNatClampNeg 1) 10 l_.toNatClampNeg w) G) := hD
  refine lv_aload_n hx hb dX2_stuck_14 rfl (lv_at hl 0 rfl) ?_
  refine lv_iload_n hx hb dX2_stuck_15 rfl (lv_at hl 3 rfl) ?_
  refine qw_i (w2 := []) (va_runV (As := [.int f]) (rest := []) ⟨hx, hb, hml, hown, hts⟩ (c_X2_found l D kI kJ kL a (sU (sU S 8 l_.toNatClampNeg 1) 10 l_.toNatClampNeg w) G H.size f hf6) (cwV 1 hts gX2_stuck_X2_found rfl rfl rfl (by decide +kernel) ⟨Nat.le_of_ble_eq_true rfl, Nat.le_of_ble_eq_true rfl⟩) (q_wV (w2 := []) hK hN (by rw [List.append_nil]; exact hP) (by rw [List.append_nil]; exact hD) (va_recv hK hP (ci := 5) (q0 := 0) rfl rfl)) rfl rfl hl.1 rfl (lv_room (Nat.le_of_ble_eq_true rfl)) dX2_stuck_16 ⟨Nat.le_of_ble_eq_true rfl, Nat.le_of_ble_eq_true rfl⟩) (by rw [List.append_nil]; exact hP) (by rw [List.append_nil]; exact hD) hS hA (fun r_2 u_3 H locs h_1 hP hD hS => ?_)
  rw [List.append_nil] at hP hD
  obtain ⟨rfl, rfl⟩ := h_1
  have hP : va_P D vwCl (mW kI kJ a (xfd (sU (sU S 8 l_.toNatClampNeg 1) 10 l_.toNatClampNeg w) f) G) H := hP
  have hD : va_D A (mW kI kJ a (xfd (sU (sU S 8 l_.toNatClampNeg 1) 10 l_.toNatClampNeg w) f) G) := hD
  exact W.iret (v := (-30 - f)) hx hb hr (fun t9 ht hW => ⟨⟨(-30 - f), ((xfd (sU (sU S 8 l_.toNatClampNeg 1) 10 l_.toNatClampNeg w) f), G), rfl, ⟨rfl, rfl⟩, by rw [ht]; exact hP, va_K.moved hW.alike hK, by rw [hAe]; exact hD⟩, hS.F ht⟩) hS.2.2 dX2_stuck_19

set_option maxHeartbeats 4000000 in
set_option maxRecDepth 100000 in
theorem c_X2_adds (l : Launch) (D : va_G) (kI kJ kL : ClassId) (a : Nat → Nat) (S : Nat → Nat → Int32) (G : Nat → Int64) (sz : Nat) (f : Int32) (y : Int32) (z : Int32) (n : Nat) (hn6 : S 6 0 = nI n) (hnl : n < 110) : Met l yX2_adds wsX2_adds ({ frames := 0, cells := 0, slots := 0, locals := 0 }) (q_wP D (xTY kI kJ kL) (mW kI kJ a S G) sz [.ref (a 0), .int f, .int y, .int z]) (va_Qi (fun r (u : (Nat → Nat → Int32) × (Nat → Int64)) => r = S 6 0 + 1 - 1 ∧ u = (mad S f y z, mgl G (S 6 0) 10)) (q_wB D (xTY kI kJ kL) (mW kI kJ a S G) sz (fun u : (Nat → Nat → Int32) × (Nat → Int64) => mW kI kJ a u.1 u.2)) (va_A (mW kI kJ a S G) sz)) 0 0 (va_A (mW kI kJ a S G) sz) := by
  refine Met.ofW (cc := cX2_adds) (maxL := 5) (ret := (some .int)) (by decide) rfl ?_
  intro p e s m args below meth c s₁ Bd hml hv
  obtain ⟨rfl, hsz, hP, hK, hD0, hN⟩ := hv
  have hx := Bd.exec
  have hb := Bd.bytes
  have hr := Bd.returns
  have hts := atoms_spec (ws := wsX2_adds) Bd.pre
  have hown : s.vm.findClass RX2 = some m.cls := findClass_of_methodNamed Bd.named
  have hlocks := Bd.notSynchronized
  subst hsz
  have hD := hD0.self (sz := s.heap.size)
  generalize hAe : va_A (mW kI kJ a S G) s.heap.size = A at hD ⊢
  have hA : ∀ q : Nat, s.heap.size ≤ q → A q := fun q h => by rw [← hAe]; exact Or.inr h
  have hS : va_S A s.heap s.heap [] := va_S.rf
  have hl := lv_entry ([.ref (a 0), .int f, .int y, .int z]) (n := 5) (Nat.le_of_ble_eq_true rfl)
  rw [lg_entry_eq]
  generalize (lg_sl ([.ref (a 0), .int f, .int y, .int z]) ++ List.replicate (5 - (lg_sl ([.ref (a 0), .int f, .int y, .int z])).length) Slot.unset).toArray = ls at hl ⊢
  have hl : lv_has ls 5 [(0, .ref (a 0)), (1, .int f), (2, .int y), (3, .int z)] := hl
  have hinX2 : ∀ w ∈ u_ws RX2 TX2 17, w ∈ wsX2_adds := by decide +kernel
  have hin6 : vp_in (S 6 0) 110 := by
    rw [hn6]
    exact vp_in_nI (by omega) (by omega)
  refine lv_aload_n hx hb dX2_adds_0 rfl (lv_at hl 0 rfl) ?_
  refine va_get (D := D) (ci := 5) (v := .ref (a 1)) (C := RX2) (T := TX2) (N := 17) hx hb hts hinX2 hown hK hP 0 rfl rfl 2 (by decide) (hts (.fieldLink RX2 7 "LoanCasesModel" "forms" "[I") (by decide +kernel)) (fun _ h9 => h9) rfl dX2_adds_1 ?_
  refine lv_aload_n hx hb dX2_adds_4 rfl (lv_at hl 0 rfl) ?_
  refine va_get (D := D) (ci := 5) (v := .int (S 6 0)) (C := RX2) (T := TX2) (N := 17) hx hb hts hinX2 hown hK hP 0 rfl rfl 1 (by decide) (hts (.fieldLink RX2 63 "LoanCasesModel" "things" "I") (by decide +kernel)) (fun _ h9 => h9) rfl dX2_adds_5 ?_
  refine lv_iload_n hx hb dX2_adds_8 rfl (lv_at hl 1 rfl) ?_
  refine va_iast hx hb hK hP hD hS 1 0 rfl rfl hin6 dX2_adds_9 (fun H locs hP hD hS => ?_)
  have hP : va_P D vwCl (mW kI kJ a (sU S 0 ((S 6 0).toNatClampNeg) f) G) H := hP
  have hD : va_D A (mW kI kJ a (sU S 0 ((S 6 0).toNatClampNeg) f) G) := hD
  refine lv_aload_n hx hb dX2_adds_10 rfl (lv_at hl 0 rfl) ?_
  refine va_get (D := D) (ci := 5) (v := .ref (a 2)) (C := RX2) (T := TX2) (N := 17) hx hb hts hinX2 hown hK hP 0 rfl rfl 3 (by decide) (hts (.fieldLink RX2 13 "LoanCasesModel" "years" "[I") (by decide +kernel)) (fun _ h9 => h9) rfl dX2_adds_11 ?_
  refine lv_aload_n hx hb dX2_adds_14 rfl (lv_at hl 0 rfl) ?_
  refine va_get (D := D) (ci := 5) (v := .int (S 6 0)) (C := RX2) (T := TX2) (N := 17) hx hb hts hinX2 hown hK hP 0 rfl rfl 1 (by decide) (hts (.fieldLink RX2 63 "LoanCasesModel" "things" "I") (by decide +kernel)) (fun _ h9 => h9) rfl dX2_adds_15 ?_
  refine lv_iload_n hx hb dX2_adds_18 rfl (lv_at hl 2 rfl) ?_
  refine va_iast hx hb hK hP hD hS 2 0 rfl rfl hin6 dX2_adds_19 (fun H locs hP hD hS => ?_)
  have hP : va_P D vwCl (mW kI kJ a (sU (sU S 0 ((S 6 0).toNatClampNeg) f) 1 ((S 6 0).toNatClampNeg) y) G) H := hP
  have hD : va_D A (mW kI kJ a (sU (sU S 0 ((S 6 0).toNatClampNeg) f) 1 ((S 6 0).toNatClampNeg) y) G) := hD
  refine lv_aload_n hx hb dX2_adds_20 rfl (lv_at hl 0 rfl) ?_
  refine va_get (D := D) (ci := 5) (v := .ref (a 3)) (C := RX2) (T := TX2) (N := 17) hx hb hts hinX2 hown hK hP 0 rfl rfl 4 (by decide) (hts (.fieldLink RX2 16 "LoanCasesModel" "sizes" "[I") (by decide +kernel)) (fun _ h9 => h9) rfl dX2_adds_21 ?_
  refine lv_aload_n hx hb dX2_adds_24 rfl (lv_at hl 0 rfl) ?_
  refine va_get (D := D) (ci := 5) (v := .int (S 6 0)) (C := RX2) (T := TX2) (N := 17) hx hb hts hinX2 hown hK hP 0 rfl rfl 1 (by decide) (hts (.fieldLink RX2 63 "LoanCasesModel" "things" "I") (by decide +kernel)) (fun _ h9 => h9) rfl dX2_adds_25 ?_
  refine lv_iload_n hx hb dX2_adds_28 rfl (lv_at hl 3 rfl) ?_
  refine va_iast hx hb hK hP hD hS 3 0 rfl rfl hin6 dX2_adds_29 (fun H locs hP hD hS => ?_)
  have hP : va_P D vwCl (mW kI kJ a (sU (sU (sU S 0 ((S 6 0).toNatClampNeg) f) 1 ((S 6 0).toNatClampNeg) y) 2 ((S 6 0).toNatClampNeg) z) G) H := hP
  have hD : va_D A (mW kI kJ a (sU (sU (sU S 0 ((S 6 0).toNatClampNeg) f) 1 ((S 6 0).toNatClampNeg) y) 2 ((S 6 0).toNatClampNeg) z) G) := hD
  refine lv_iconst (v := 0) hx hb dX2_adds_30 (by decide) ?_
  refine lv_istore (lv' := [(4, .int 0), (0, .ref (a 0)), (1, .int f), (2, .int y), (3, .int z)]) hx hb dX2_adds_31 hl (by decide) rfl (fun ls hl => ?_)
  have loop33 : ∀ (n33 : Nat) (i : Nat), (11 ≤ i + n33) → (i ≤ 10) → ∀ (H : Heap) (locs : List Loc), va_P D vwCl (mW kI kJ a (mfl (sU (sU (sU S 0 (S 6 0).toNatClampNeg f) 1 (S 6 0).toNatClampNeg y) 2 (S 6 0).toNatClampNeg z) (S 6 0) i) (mgl G (S 6 0) i)) H → va_D A (mW kI kJ a (mfl (sU (sU (sU S 0 (S 6 0).toNatClampNeg f) 1 (S 6 0).toNatClampNeg y) 2 (S 6 0).toNatClampNeg z) (S 6 0) i) (mgl G (S 6 0) i)) → va_S A s.heap H locs → ∀ (ls : Array Slot), lv_has ls 5 [(0, .ref (a 0)), (1, .int f), (2, .int y), (3, .int z), (4, .int (nI i))] → W p l e ({ frames := 0, cells := 0, slots := 0, locals := 0 }) s m ([.ref (a 0), .int f, .int y, .int z] : List Value).toArray below meth c H locs 0 0 (MQ below (va_Qi (fun r (u : (Nat → Nat → Int32) × (Nat → Int64)) => r = S 6 0 + 1 - 1 ∧ u = (mad S f y z, mgl G (S 6 0) 10)) (q_wB D (xTY kI kJ kL) (mW kI kJ a S G) s.heap.size (fun u : (Nat → Nat → Int32) × (Nat → Int64) => mW kI kJ a u.1 u.2)) A) ([.ref (a 0), .int f, .int y, .int z] : List Value).toArray s 0 0 A) (F0 m 33 ls []) := by
    intro n33
    induction n33 with
    | zero =>
      intro i hf hi
      exact absurd hf (by omega)
    | succ n33 ih33 =>
      intro i hf hi H locs hP hD hS ls hl
      refine lv_iload hx hb dX2_adds_33 (lv_at hl 4 rfl) ?_
      refine lv_bipush (v := 10) hx hb dX2_adds_35 (by decide) ?_
      refine lv_icmp_ge (tgt := 78) hx hb dX2_adds_37 (by decide) (fun c_1 => ?_) (fun c_1 => ?_)
      · have hi2 : i = 10 := by
          have h7 : 10 ≤ i := (nI_leI (a := 10) (b := i) (by omega) (by omega)).mp c_1
          omega
        refine lv_aload_n hx hb dX2_adds_78 rfl (lv_at hl 0 rfl) ?_
        refine lv_dup hx hb dX2_adds_79 rfl ?_
        refine va_get (D := D) (ci := 5) (v := .int (S 6 0)) (C := RX2) (T := TX2) (N := 17) hx hb hts hinX2 hown hK hP 0 rfl rfl 1 (by decide) (hts (.fieldLink RX2 63 "LoanCasesModel" "things" "I") (by decide +kernel)) (fun _ h9 => h9) (congrArg (fun z9 => some (Value.int z9)) (congrFun (mfl_ne _ _ 6 (by decide) _) 0)) dX2_adds_80 ?_
        refine lv_iconst (v := 1) hx hb dX2_adds_83 (by decide) ?_
        refine lv_iadd hx hb dX2_adds_84 ?_
        refine va_put (D := D) (ci := 5) (v := .int ((S 6 0) + 1)) (ty := .int) (C := RX2) (T := TX2) (N := 17) hx hb hts hinX2 tyX2 tyX2_ok nmX2 hown hK hP hD hS 0 rfl rfl 1 (by decide) (hts (.fieldLink RX2 63 "LoanCasesModel" "things" "I") (by decide +kernel)) (fun _ h9 => h9) rfl (by decide +kernel) rfl rfl (Nat.le_of_ble_eq_true rfl) dX2_adds_85 (fun H locs hP hD hS => ?_)
        have hP : va_P D vwCl (mW kI kJ a (sU (mfl (sU (sU (sU S 0 (S 6 0).toNatClampNeg f) 1 (S 6 0).toNatClampNeg y) 2 (S 6 0).toNatClampNeg z) (S 6 0) i) 6 0 ((S 6 0) + 1)) (mgl G (S 6 0) i)) H := hP
        have hD : va_D A (mW kI kJ a (sU (mfl (sU (sU (sU S 0 (S 6 0).toNatClampNeg f) 1 (S 6 0).toNatClampNeg y) 2 (S 6 0).toNatClampNeg z) (S 6 0) i) 6 0 ((S 6 0) + 1)) (mgl G (S 6 0) i)) := hD
        refine lv_aload_n hx hb dX2_adds_88 rfl (lv_at hl 0 rfl) ?_
        refine va_get (D := D) (ci := 5) (v := .int (S 6 0 + 1)) (C := RX2) (T := TX2) (N := 17) hx hb hts hinX2 hown hK hP 0 rfl rfl 1 (by decide) (hts (.fieldLink RX2 63 "LoanCasesModel" "things" "I") (by decide +kernel)) (fun _ h9 => h9) rfl dX2_adds_89 ?_
        refine lv_iconst (v := 1) hx hb dX2_adds_92 (by decide) ?_
        refine lv_isub hx hb dX2_adds_93 ?_
        exact W.iret (v := ((S 6 0 + 1) - 1)) hx hb hr (fun t9 ht hW => ⟨⟨((S 6 0 + 1) - 1), ((sU (mfl (sU (sU (sU S 0 (S 6 0).toNatClampNeg f) 1 (S 6 0).toNatClampNeg y) 2 (S 6 0).toNatClampNeg z) (S 6 0) i) 6 0 ((S 6 0) + 1)), (mgl G (S 6 0) i)), rfl, ⟨rfl, by rw [hi2, mad]⟩, by rw [ht]; exact hP, va_K.moved hW.alike hK, by rw [hAe]; exact hD⟩, hS.F ht⟩) hS.2.2 dX2_adds_94
      · have hi2 : i < 10 := Nat.lt_of_not_le (fun h8 => c_1 ((nI_leI (a := 10) (b := i) (by omega) (by omega)).mpr h8))
        have hin : vp_in (10 * S 6 0 + nI i) 1100 := by
          rw [hn6, show (10 : Int32) = nI 10 from rfl, pk_mul, nI_add]
          exact vp_in_nI (by omega) (by omega)
        refine lv_aload_n hx hb dX2_adds_40 rfl (lv_at hl 0 rfl) ?_
        refine va_get (D := D) (ci := 5) (v := .ref (a 4)) (C := RX2) (T := TX2) (N := 17) hx hb hts hinX2 hown hK hP 0 rfl rfl 5 (by decide) (hts (.fieldLink RX2 19 "LoanCasesModel" "numbers" "[J") (by decide +kernel)) (fun _ h9 => h9) rfl dX2_adds_41 ?_
        refine lv_bipush (v := 10) hx hb dX2_adds_44 (by decide) ?_
        refine lv_aload_n hx hb dX2_adds_46 rfl (lv_at hl 0 rfl) ?_
        refine va_get (D := D) (ci := 5) (v := .int (S 6 0)) (C := RX2) (T := TX2) (N := 17) hx hb hts hinX2 hown hK hP 0 rfl rfl 1 (by decide) (hts (.fieldLink RX2 63 "LoanCasesModel" "things" "I") (by decide +kernel)) (fun _ h9 => h9) (congrArg (fun z9 => some (Value.int z9)) (congrFun (mfl_ne _ _ 6 (by decide) _) 0)) dX2_adds_47 ?_
        refine lv_imul hx hb dX2_adds_50 ?_
        refine lv_iload hx hb dX2_adds_51 (lv_at hl 4 rfl) ?_
        refine lv_iadd hx hb dX2_adds_53 ?_
        refine lv_lconst (v := 0) hx hb dX2_adds_54 (by decide) ?_
        refine va_last hx hb hK hP hD hS 4 1 rfl rfl hin dX2_adds_55 (fun H locs hP hD hS => ?_)
        have hP : va_P D vwCl (mW kI kJ a (mfl (sU (sU (sU S 0 (S 6 0).toNatClampNeg f) 1 (S 6 0).toNatClampNeg y) 2 (S 6 0).toNatClampNeg z) (S 6 0) i) (vp_updL (mgl G (S 6 0) i) (((10 * (S 6 0)) + (nI i)).toNatClampNeg) 0)) H := hP
        have hD : va_D A (mW kI kJ a (mfl (sU (sU (sU S 0 (S 6 0).toNatClampNeg f) 1 (S 6 0).toNatClampNeg y) 2 (S 6 0).toNatClampNeg z) (S 6 0) i) (vp_updL (mgl G (S 6 0) i) (((10 * (S 6 0)) + (nI i)).toNatClampNeg) 0)) := hD
        refine lv_aload_n hx hb dX2_adds_56 rfl (lv_at hl 0 rfl) ?_
        refine va_get (D := D) (ci := 5) (v := .ref (a 5)) (C := RX2) (T := TX2) (N := 17) hx hb hts hinX2 hown hK hP 0 rfl rfl 6 (by decide) (hts (.fieldLink RX2 23 "LoanCasesModel" "places" "[I") (by decide +kernel)) (fun _ h9 => h9) rfl dX2_adds_57 ?_
        refine lv_bipush (v := 10) hx hb dX2_adds_60 (by decide) ?_
        refine lv_aload_n hx hb dX2_adds_62 rfl (lv_at hl 0 rfl) ?_
        refine va_get (D := D) (ci := 5) (v := .int (S 6 0)) (C := RX2) (T := TX2) (N := 17) hx hb hts hinX2 hown hK hP 0 rfl rfl 1 (by decide) (hts (.fieldLink RX2 63 "LoanCasesModel" "things" "I") (by decide +kernel)) (fun _ h9 => h9) (congrArg (fun z9 => some (Value.int z9)) (congrFun (mfl_ne _ _ 6 (by decide) _) 0)) dX2_adds_63 ?_
        refine lv_imul hx hb dX2_adds_66 ?_
        refine lv_iload hx hb dX2_adds_67 (lv_at hl 4 rfl) ?_
        refine lv_iadd hx hb dX2_adds_69 ?_
        refine lv_iconst (v := -1) hx hb dX2_adds_70 (by decide) ?_
        refine va_iast hx hb hK hP hD hS 5 0 rfl rfl hin dX2_adds_71 (fun H locs hP hD hS => ?_)
        have hP : va_P D vwCl (mW kI kJ a (sU (mfl (sU (sU (sU S 0 (S 6 0).toNatClampNeg f) 1 (S 6 0).toNatClampNeg y) 2 (S 6 0).toNatClampNeg z) (S 6 0) i) 4 (((10 * (S 6 0)) + (nI i)).toNatClampNeg) (-1)) (vp_updL (mgl G (S 6 0) i) (((10 * (S 6 0)) + (nI i)).toNatClampNeg) 0)) H := hP
        have hD : va_D A (mW kI kJ a (sU (mfl (sU (sU (sU S 0 (S 6 0).toNatClampNeg f) 1 (S 6 0).toNatClampNeg y) 2 (S 6 0).toNatClampNeg z) (S 6 0) i) 4 (((10 * (S 6 0)) + (nI i)).toNatClampNeg) (-1)) (vp_updL (mgl G (S 6 0) i) (((10 * (S 6 0)) + (nI i)).toNatClampNeg) 0)) := hD
        obtain ⟨x_2, ex_2⟩ : ∃ y : Int32, y = (nI i) + (1) := ⟨_, rfl⟩
        refine lv_iinc (v := x_2) (lv' := [(4, .int x_2), (0, .ref (a 0)), (1, .int f), (2, .int y), (3, .int z)]) hx hb dX2_adds_72 hl (k := 4) rfl (by rw [ex_2]; rfl) (by decide) rfl (fun ls hl => ?_)
        refine lv_goto (tgt := 33) hx hb dX2_adds_75 (by decide) ?_
        rw [show x_2 = nI (i + 1) from (ex_2).trans (nI_1 i)] at hl
        exact ih33 (i + 1) (by omega) (by omega) H locs hP hD hS ls (lv_sub hl [1, 2, 3, 4, 0] rfl)
  exact loop33 11 0 (by omega) (by omega) H locs hP hD hS ls (lv_sub hl [1, 2, 3, 4, 0] rfl)
