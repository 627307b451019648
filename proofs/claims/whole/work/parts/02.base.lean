/-! worlds side by side, and calls over them -/
theorem qb_Pl {D : va_G} {cl : List vw_C} {w w2 : va_W} {H : Heap} (h : va_P D cl (w ++ w2) H) : va_P D cl w H := fun k q hk => h k q (by rw [List.getElem?_append_left ((List.getElem?_eq_some_iff.mp hk).1)]; exact hk)
theorem qb_Pr {D : va_G} {cl : List vw_C} {w w2 : va_W} {H : Heap} (h : va_P D cl (w ++ w2) H) : va_P D cl w2 H := fun k q hk => h (w.length + k) q (by rw [List.getElem?_append_right (Nat.le_add_right _ _), Nat.add_sub_cancel_left]; exact hk)
theorem qb_Dl {A : Nat → Prop} {w w2 : va_W} (h : va_D A (w ++ w2)) : va_D A w := by
  have f : ∀ (k : Nat) (q : Nat × va_E), w[k]? = some q → (w ++ w2)[k]? = some q := fun k q hk => by rw [List.getElem?_append_left ((List.getElem?_eq_some_iff.mp hk).1)]; exact hk
  exact ⟨fun i j p q hi hj e => h.1 i j p q (f i p hi) (f j q hj) e, fun k q hk => h.2 k q (f k q hk)⟩
theorem qb_Dr {A : Nat → Prop} {w w2 : va_W} (h : va_D A (w ++ w2)) : va_D A w2 := by
  have f : ∀ (k : Nat) (q : Nat × va_E), w2[k]? = some q → (w ++ w2)[w.length + k]? = some q := fun k q hk => by rw [List.getElem?_append_right (Nat.le_add_right _ _), Nat.add_sub_cancel_left]; exact hk
  exact ⟨fun i j p q hi hj e => by have := h.1 _ _ p q (f i p hi) (f j q hj) e; omega, fun k q hk => h.2 _ q (f k q hk)⟩
theorem qb_ne {A : Nat → Prop} {w w2 : va_W} (h : va_D A (w ++ w2)) (i j : Nat) (p q : Nat × va_E) (hi : w[i]? = some p) (hj : w2[j]? = some q) : p.1 ≠ q.1 := by
  intro e
  have hl := (List.getElem?_eq_some_iff.mp hi).1
  have h1 : (w ++ w2)[i]? = some p := by rw [List.getElem?_append_left hl]; exact hi
  have h2 : (w ++ w2)[w.length + j]? = some q := by rw [List.getElem?_append_right (Nat.le_add_right _ _), Nat.add_sub_cancel_left]; exact hj
  have := h.1 _ _ p q h1 h2 e
  omega
theorem qb_swapP {D : va_G} {cl : List vw_C} {w w2 : va_W} {H : Heap} (h : va_P D cl (w ++ w2) H) : va_P D cl (w2 ++ w) H := (qb_Pr h).app (qb_Pl h)
theorem qb_swapD {A : Nat → Prop} {w w2 : va_W} (h : va_D A (w ++ w2)) : va_D A (w2 ++ w) := (qb_Dr h).app (qb_Dl h) (fun i j p q hi hj e => qb_ne h j i q p hj hi e.symm)
theorem qb_free {A : Nat → Prop} {w w2 : va_W} {H0 H : Heap} {locs : List Loc} (hD : va_D A (w ++ w2)) (hS : va_S A H0 H locs) (hA : ∀ q, H0.size ≤ q → A q) : ∀ q, va_A w H.size q → A q := by
  intro q h
  rcases h with ⟨k, e, h⟩ | h
  · exact (qb_Dl hD).2 k (q, e) h
  · exact hA q (Nat.le_trans hS.1 h)
theorem qb_join {A0 : Nat → Prop} {D : va_G} {cl : List vw_C} {w w2 w1 : va_W} {H H1 : Heap} (hP : va_P D cl (w ++ w2) H) (hD : va_D A0 (w ++ w2))
    (hk : ∀ q : Nat, q < H.size → ¬ va_A w H.size q → H1[q]? = H[q]?) (hF : ∀ q, va_A w H.size q → A0 q) (hP1 : va_P D cl w1 H1) (hD1 : va_D (va_A w H.size) w1) : va_P D cl (w1 ++ w2) H1 ∧ va_D A0 (w1 ++ w2) := by
  have out : ∀ (j : Nat) (q : Nat × va_E), w2[j]? = some q → q.1 < H.size ∧ ¬ va_A w H.size q.1 := by
    intro j q hj
    have hlt : q.1 < H.size := ((qb_Pr hP) j q hj).lt
    refine ⟨hlt, fun h => ?_⟩
    rcases h with ⟨k, e, h⟩ | h
    · exact qb_ne hD k j (q.1, e) q h hj rfl
    · omega
  refine ⟨hP1.app ((qb_Pr hP).kept fun k q hq => hk q.1 (out k q hq).1 (out k q hq).2), (hD1.weaken fun k q _ h => hF q.1 h).app (qb_Dr hD) fun i j p q hi hj e => (out j q hj).2 (by rw [← e]; exact hD1.2 i p hi)⟩
/-- the words on what nest mates share -/
def xNest (U : State) : Prop := va_Nw (.fieldLinkNest "LoanCases" 107 "LoanCases$Loan" "state" "I" "LoanCases") U ∧ va_Nw (.fieldLinkNest "LoanCases" 110 "LoanCases$Loan" "wants" "I" "LoanCases") U ∧ va_Nw (.fieldLinkNest "LoanCases" 113 "LoanCases$Loan" "boxes" "[I" "LoanCases") U ∧ va_Nw (.fieldLinkNest "LoanCases" 116 "LoanCases$Loan" "wanted" "[I" "LoanCases") U ∧ va_Nw (.fieldLinkNest "LoanCases" 138 "LoanCases$Loan" "stuckAt" "I" "LoanCases") U ∧ va_Nw (.fieldLinkNest "LoanCases" 141 "LoanCases$Loan" "load" "[I" "LoanCases") U ∧ va_Nw (.methodLinkNest "LoanCases" 102 yX0_init "LoanCases") U ∧ va_Nw (.methodLinkNest "LoanCases" 123 yX0_stick "LoanCases") U ∧ va_Nw (.methodLinkNest "LoanCases" 131 yX0_settle "LoanCases") U ∧ va_Nw (.methodLinkNest "LoanCases" 134 yX0_loaded "LoanCases") U
theorem xNest.warm {s U : State} (hW : s.WarmedH U.vm) (h : xNest s) : xNest U := by
  obtain ⟨h1, h2, h3, h4, h5, h6, h7, h8, h9, h10⟩ := h
  exact ⟨h1.warmF hW, h2.warmF hW, h3.warmF hW, h4.warmF hW, h5.warmF hW, h6.warmF hW, h7.warmM hW, h8.warmM hW, h9.warmM hW, h10.warmM hW⟩
theorem xNest.same {s U : State} (hW : s.vm = U.vm) (h : xNest s) : xNest U := by
  obtain ⟨h1, h2, h3, h4, h5, h6, h7, h8, h9, h10⟩ := h
  exact ⟨h1.same rfl hW, h2.same rfl hW, h3.same rfl hW, h4.same rfl hW, h5.same rfl hW, h6.same rfl hW, h7.same rfl hW, h8.same rfl hW, h9.same rfl hW, h10.same rfl hW⟩
/-- what a reading method wants: a world, the tables -/
abbrev q_rP (D : va_G) (TY : List (ClassId × FieldType)) (w : va_W) (as : List Value) : Array Value → State → Prop := va_Pc as (fun U => va_P D vwCl w U.heap ∧ va_K D vwCl TY U ∧ xNest U)
/-- what a writing method wants -/
abbrev q_wP (D : va_G) (TY : List (ClassId × FieldType)) (w : va_W) (sz : Nat) (as : List Value) : Array Value → State → Prop := va_Pc as (fun U => U.heap.size = sz ∧ va_P D vwCl w U.heap ∧ va_K D vwCl TY U ∧ va_D (fun _ => True) w ∧ xNest U)
/-- the world behind a writing method -/
abbrev q_wB {σ : Type} (D : va_G) (TY : List (ClassId × FieldType)) (w : va_W) (sz : Nat) (w' : σ → va_W) : σ → State → Prop := fun u t => va_P D vwCl (w' u) t.heap ∧ va_K D vwCl TY t ∧ va_D (va_A w sz) (w' u)
theorem q_rBlind (D : va_G) (TY : List (ClassId × FieldType)) (w : va_W) (as : List Value) : FrameBlind (q_rP D TY w as) := fun a U g mk q => by
  obtain ⟨q0, qP, qK, qN⟩ := q
  exact ⟨q0, qP, va_K.moved (u := U) (U := U.calling g mk a) (Vm.Alike.refl U.vm) qK, qN.same rfl⟩
theorem q_wBlind (D : va_G) (TY : List (ClassId × FieldType)) (w : va_W) (sz : Nat) (as : List Value) : FrameBlind (q_wP D TY w sz as) := fun a U g mk q => by
  obtain ⟨q0, q1, qP, qK, qD, qN⟩ := q
  exact ⟨q0, q1, qP, va_K.moved (u := U) (U := U.calling g mk a) (Vm.Alike.refl U.vm) qK, qD, qN.same rfl⟩
theorem q_rV {D : va_G} {TY : List (ClassId × FieldType)} {w w2 : va_W} {s : State} {H : Heap} {C : String} {b : Addr} {As : List Value} (hK : va_K D vwCl TY s) (hN : xNest s) (hP : va_P D vwCl (w ++ w2) H) (hr : ∃ cell : Cell, H[b]? = some cell ∧ cell.vm.isStatics = false ∧ s.vm.findClass C = some cell.cls) : PreV s H C b (q_rP D TY w (.ref b :: As)) As :=
  ⟨q_rBlind D TY w _, hr, fun U hU hW => ⟨rfl, by rw [hU]; exact qb_Pl hP, va_K.moved hW.alike hK, hN.warm hW⟩⟩
theorem q_rS {D : va_G} {TY : List (ClassId × FieldType)} {w w2 : va_W} {s : State} {H : Heap} {As : List Value} (hK : va_K D vwCl TY s) (hN : xNest s) (hP : va_P D vwCl (w ++ w2) H) : PreS s H (q_rP D TY w As) As :=
  ⟨q_rBlind D TY w _, fun U hU hW => ⟨rfl, by rw [hU]; exact qb_Pl hP, va_K.moved hW.alike hK, hN.warm hW⟩⟩
theorem q_rS0 {D : va_G} {TY : List (ClassId × FieldType)} {s : State} {H : Heap} {As : List Value} (hK : va_K D vwCl TY s) (hN : xNest s) : PreS s H (q_rP D TY [] As) As :=
  ⟨q_rBlind D TY [] _, fun U hU hW => ⟨rfl, fun k q h => by simp at h, va_K.moved hW.alike hK, hN.warm hW⟩⟩
theorem q_wV {A : Nat → Prop} {D : va_G} {TY : List (ClassId × FieldType)} {w w2 : va_W} {s : State} {H : Heap} {C : String} {b : Addr} {As : List Value} (hK : va_K D vwCl TY s) (hN : xNest s) (hP : va_P D vwCl (w ++ w2) H) (hD : va_D A (w ++ w2)) (hr : ∃ cell : Cell, H[b]? = some cell ∧ cell.vm.isStatics = false ∧ s.vm.findClass C = some cell.cls) : PreV s H C b (q_wP D TY w H.size (.ref b :: As)) As :=
  ⟨q_wBlind D TY w _ _, hr, fun U hU hW => ⟨rfl, by rw [hU], by rw [hU]; exact qb_Pl hP, va_K.moved hW.alike hK, (qb_Dl hD).weaken (fun _ _ _ _ => trivial), hN.warm hW⟩⟩
theorem q_wS {A : Nat → Prop} {D : va_G} {TY : List (ClassId × FieldType)} {w w2 : va_W} {s : State} {H : Heap} {As : List Value} (hK : va_K D vwCl TY s) (hN : xNest s) (hP : va_P D vwCl (w ++ w2) H) (hD : va_D A (w ++ w2)) : PreS s H (q_wP D TY w H.size As) As :=
  ⟨q_wBlind D TY w _ _, fun U hU hW => ⟨rfl, by rw [hU], by rw [hU]; exact qb_Pl hP, va_K.moved hW.alike hK, (qb_Dl hD).weaken (fun _ _ _ _ => trivial), hN.warm hW⟩⟩
section QCalls
variable {p : Program} {l : Launch} {e : Env} {R : Room} {s : State} {m : MethodId} {args : Array Value} {below : List Frame} {meth : Method} {c : Code} {H H0 : Heap} {locs : List Loc} {cells slots mc ms : Nat} {Q : State → Prop} {pc : Nat} {ls : Array Slot} {st0 rest : List Value} {a : Array Value} {D : va_G} {TY : List (ClassId × FieldType)} {w w2 : va_W} {A : Nat → Prop}
theorem qw_i {σ : Type} {post : Int32 → σ → Prop} {w' : σ → va_W} (hr : va_Run p l e R s m args below meth c H locs cells slots mc ms (F0 m pc ls st0) rest (va_Qi post (q_wB D TY w H.size w') (va_A w H.size) a) (va_A w H.size))
    (hP : va_P D vwCl (w ++ w2) H) (hD : va_D A (w ++ w2)) (hS : va_S A H0 H locs) (hA : ∀ q, H0.size ≤ q → A q)
    (kk : ∀ (r : Int32) (u : σ) (H1 : Heap) (locs1 : List Loc), post r u → va_P D vwCl (w' u ++ w2) H1 → va_D A (w' u ++ w2) → va_S A H0 H1 locs1 → W p l e R s m args below meth c H1 locs1 (cells + mc) (slots + ms) Q (F0 m (pc + 3) ls (.int r :: rest))) : W p l e R s m args below meth c H locs cells slots Q (F0 m pc ls st0) := by
  have hF := qb_free hD hS hA
  refine va_calli hr hS (fun q _ h => hF q h) hF (fun r u t H1 locs1 ht hvm hw hB hz hk hS1 => ?_)
  obtain ⟨hP1, hK1, hD1⟩ := hB
  rw [ht] at hP1
  obtain ⟨hP2, hD2⟩ := qb_join hP hD hk hF hP1 hD1
  exact kk r u H1 locs1 hw hP2 hD2 hS1
theorem qw_v {σ : Type} {post : σ → Prop} {w' : σ → va_W} (hr : va_Run p l e R s m args below meth c H locs cells slots mc ms (F0 m pc ls st0) rest (va_Qv post (q_wB D TY w H.size w') (va_A w H.size) a) (va_A w H.size))
    (hP : va_P D vwCl (w ++ w2) H) (hD : va_D A (w ++ w2)) (hS : va_S A H0 H locs) (hA : ∀ q, H0.size ≤ q → A q)
    (kk : ∀ (u : σ) (H1 : Heap) (locs1 : List Loc), post u → va_P D vwCl (w' u ++ w2) H1 → va_D A (w' u ++ w2) → va_S A H0 H1 locs1 → W p l e R s m args below meth c H1 locs1 (cells + mc) (slots + ms) Q (F0 m (pc + 3) ls rest)) : W p l e R s m args below meth c H locs cells slots Q (F0 m pc ls st0) := by
  have hF := qb_free hD hS hA
  refine va_callv hr hS (fun q _ h => hF q h) hF (fun u t H1 locs1 ht hvm hw hB hz hk hS1 => ?_)
  obtain ⟨hP1, hK1, hD1⟩ := hB
  rw [ht] at hP1
  obtain ⟨hP2, hD2⟩ := qb_join hP hD hk hF hP1 hD1
  exact kk u H1 locs1 hw hP2 hD2 hS1
end QCalls
/-- a choice by any proposition -/
noncomputable def cif {α : Type} (P : Prop) (a b : α) : α := @ite α P (Classical.propDecidable P) a b
theorem cif_t {α : Type} {P : Prop} {a b : α} (h : P) : cif P a b = a := by unfold cif; exact if_pos h
theorem cif_f {α : Type} {P : Prop} {a b : α} (h : ¬ P) : cif P a b = b := by unfold cif; exact if_neg h
/-- an index that two tests let through -/
theorem vp_in_lt {t n : Int32} {L : Nat} (h0 : ¬ t < 0) (h1 : ¬ n ≤ t) (hn : n.toInt ≤ L) : vp_in t L := by
  rw [vp_in_iff]
  rw [Int32.lt_iff_toInt_lt, Int32.toInt_zero] at h0
  rw [Int32.le_iff_toInt_le] at h1
  omega
def sU (S : Nat → Nat → Int32) (a i : Nat) (v : Int32) : Nat → Nat → Int32 := fun b => if b = a then upd (S a) i v else S b
def nU (N : Nat → Nat → Nat → Int32) (j k i : Nat) (v : Int32) : Nat → Nat → Nat → Int32 := fun j' => if j' = j then (fun k' => if k' = k then upd (N j k) i v else N j k') else N j'
abbrev xTY (kI kJ kL : ClassId) : List (ClassId × FieldType) := [(kI, .int), (kJ, .long), (kL, .object RX0)]
/-- a loan's cells: the object, its three rows -/
def xC (kI : ClassId) (q : Nat → Nat) (N : Nat → Nat → Nat → Int32) (i : Nat) : va_E := if i % 4 = 0 then .inr (3, [.int (N (i / 4) 0 0), .int (N (i / 4) 1 0), .int (N (i / 4) 2 0), .ref (q (i + 1)), .ref (q (i + 2)), .ref (q (i + 3))]) else .inl (kI, 8, .inl (N (i / 4) (i % 4 + 2)))
def xP (kI : ClassId) (q : Nat → Nat) (N : Nat → Nat → Nat → Int32) (B : Nat) : va_W := (List.range (4 * B)).map (fun i => (q i, xC kI q N i))
abbrev xF (kI kL : ClassId) (a : Nat → Nat) (S : Nat → Nat → Int32) (F : Nat → Option Nat) : va_W := [(a 0, .inr (4, [.ref (a 1), .ref (a 2), .ref (a 3), .ref (a 4), .ref (a 5), .int (S 6 0), .ref (a 6), .int (S 7 0), .ref (a 7)])), (a 1, .inl (kI, 110, .inl (S 0))), (a 2, .inl (kI, 110, .inl (S 1))), (a 3, .inl (kI, 110, .inl (S 2))), (a 4, .inl (kI, 110, .inl (S 3))), (a 5, .inl (kI, 1100, .inl (S 4))), (a 6, .inl (kL, 8, .inr (.inr (.inr (.inr F))))), (a 7, .inl (kI, 6, .inl (S 5)))]
abbrev xW (kI kL : ClassId) (a q : Nat → Nat) (S : Nat → Nat → Int32) (N : Nat → Nat → Nat → Int32) (F : Nat → Option Nat) (B : Nat) : va_W := xF kI kL a S F ++ xP kI q N B
abbrev mW (kI kJ : ClassId) (a : Nat → Nat) (S : Nat → Nat → Int32) (G : Nat → Int64) : va_W := [(a 0, .inr (5, [.int (S 16 0), .int (S 6 0), .ref (a 1), .ref (a 2), .ref (a 3), .ref (a 4), .ref (a 5), .ref (a 6), .ref (a 7), .int (S 7 0), .ref (a 8), .ref (a 9), .ref (a 10), .ref (a 11), .ref (a 12), .ref (a 13), .ref (a 14)])), (a 1, .inl (kI, 110, .inl (S 0))), (a 2, .inl (kI, 110, .inl (S 1))), (a 3, .inl (kI, 110, .inl (S 2))), (a 4, .inl (kJ, 1100, .inr (.inl G))), (a 5, .inl (kI, 1100, .inl (S 4))), (a 6, .inl (kI, 19, .inl (S 14))), (a 7, .inl (kI, 18, .inl (S 15))), (a 8, .inl (kI, 8, .inl (S 8))), (a 9, .inl (kI, 8, .inl (S 9))), (a 10, .inl (kI, 8, .inl (S 10))), (a 11, .inl (kI, 64, .inl (S 11))), (a 12, .inl (kI, 64, .inl (S 12))), (a 13, .inl (kI, 64, .inl (S 13))), (a 14, .inl (kI, 6, .inl (S 5)))]
theorem xP_at {kI : ClassId} {q : Nat → Nat} {N : Nat → Nat → Nat → Int32} {B i : Nat} (X : va_W) (hi : i < 4 * B) : (X ++ xP kI q N B)[X.length + i]? = some (q i, xC kI q N i) := by
  rw [List.getElem?_append_right (Nat.le_add_right _ _), Nat.add_sub_cancel_left]
  simp [xP, hi]
theorem xP_set {kI : ClassId} {q : Nat → Nat} {N N' : Nat → Nat → Nat → Int32} {B i : Nat} (X : va_W) {e : va_E} (hi : i < 4 * B) (he : e = xC kI q N' i) (ho : ∀ k, k < 4 * B → k ≠ i → xC kI q N' k = xC kI q N k) : (X ++ xP kI q N B).set (X.length + i) (q i, e) = X ++ xP kI q N' B := by
  rw [List.set_append_right _ _ (Nat.le_add_right _ _), Nat.add_sub_cancel_left]
  congr 1
  apply List.ext_getElem?
  intro k
  rw [List.getElem?_set]
  by_cases h : i = k
  · subst h
    simp [xP, hi, he]
  · by_cases hk : k < 4 * B
    · simp [xP, hk, h, ho k hk (fun z => h z.symm)]
    · simp [xP, hk, h]
theorem xL_obj {kI kL : ClassId} {a q : Nat → Nat} {S : Nat → Nat → Int32} {N : Nat → Nat → Nat → Int32} {F : Nat → Option Nat} {B j : Nat} (hj : j < B) : (xW kI kL a q S N F B)[8 + 4 * j]? = some (q (4 * j), .inr (3, [.int (N j 0 0), .int (N j 1 0), .int (N j 2 0), .ref (q (4 * j + 1)), .ref (q (4 * j + 2)), .ref (q (4 * j + 3))])) := by
  have h := xP_at (kI := kI) (q := q) (N := N) (xF kI kL a S F) (show 4 * j < 4 * B by omega)
  have e : xC kI q N (4 * j) = .inr (3, [.int (N j 0 0), .int (N j 1 0), .int (N j 2 0), .ref (q (4 * j + 1)), .ref (q (4 * j + 2)), .ref (q (4 * j + 3))]) := by
    unfold xC
    rw [if_pos (by omega), show 4 * j / 4 = j by omega]
  rw [e] at h
  exact h
theorem xL_row {kI kL : ClassId} {a q : Nat → Nat} {S : Nat → Nat → Int32} {N : Nat → Nat → Nat → Int32} {F : Nat → Option Nat} {B j : Nat} (hj : j < B) (k : Nat) (hk : k < 3) : (xW kI kL a q S N F B)[8 + (4 * j + (k + 1))]? = some (q (4 * j + (k + 1)), .inl (kI, 8, .inl (N j (k + 3)))) := by
  have h := xP_at (kI := kI) (q := q) (N := N) (xF kI kL a S F) (show 4 * j + (k + 1) < 4 * B by omega)
  have e : xC kI q N (4 * j + (k + 1)) = .inl (kI, 8, .inl (N j (k + 3))) := by
    unfold xC
    rw [if_neg (by omega), show (4 * j + (k + 1)) / 4 = j by omega, show (4 * j + (k + 1)) % 4 + 2 = k + 3 by omega]
  rw [e] at h
  exact h
theorem xL_setF {kI kL : ClassId} {a q : Nat → Nat} {S : Nat → Nat → Int32} {N : Nat → Nat → Nat → Int32} {F : Nat → Option Nat} {B j : Nat} (hj : j < B) (k : Nat) (hk : k < 3) (v : Int32) : (xW kI kL a q S N F B).set (8 + 4 * j) (q (4 * j), .inr (3, ([.int (N j 0 0), .int (N j 1 0), .int (N j 2 0), .ref (q (4 * j + 1)), .ref (q (4 * j + 2)), .ref (q (4 * j + 3))] : List Value).set k (.int v))) = xW kI kL a q S (nU N j k 0 v) F B := by
  refine xP_set (xF kI kL a S F) (show 4 * j < 4 * B by omega) ?_ ?_
  · unfold xC
    rw [if_pos (by omega), show 4 * j / 4 = j by omega]
    rcases (show k = 0 ∨ k = 1 ∨ k = 2 by omega) with rfl | rfl | rfl <;> simp [nU, upd]
  · intro i hi hne
    unfold xC
    by_cases h : i % 4 = 0
    · have : i / 4 ≠ j := by omega
      simp [h, nU, this]
    · by_cases h2 : i / 4 = j
      · have : i % 4 + 2 ≠ k := by omega
        simp [h, h2, nU, this]
      · simp [h, nU, h2]
theorem xL_setR {kI kL : ClassId} {a q : Nat → Nat} {S : Nat → Nat → Int32} {N : Nat → Nat → Nat → Int32} {F : Nat → Option Nat} {B j : Nat} (hj : j < B) (k : Nat) (hk : k < 3) (i : Nat) (v : Int32) : (xW kI kL a q S N F B).set (8 + (4 * j + (k + 1))) (q (4 * j + (k + 1)), .inl (kI, 8, .inl (upd (N j (k + 3)) i v))) = xW kI kL a q S (nU N j (k + 3) i v) F B := by
  refine xP_set (xF kI kL a S F) (show 4 * j + (k + 1) < 4 * B by omega) ?_ ?_
  · unfold xC
    rw [if_neg (by omega), show (4 * j + (k + 1)) / 4 = j by omega, show (4 * j + (k + 1)) % 4 + 2 = k + 3 by omega]
    simp [nU]
  · intro i' hi hne
    unfold xC
    by_cases h : i' % 4 = 0
    · by_cases h2 : i' / 4 = j
      · simp [h, h2, nU]
      · simp [h, nU, h2]
    · by_cases h2 : i' / 4 = j
      · have : ¬ i' % 4 = k + 1 := by omega
        simp [h, h2, nU, this]
      · simp [h, nU, h2]
