/-! THE CLAIM OUT OF ONE WALK OF THE LAW'S BODY. Your part is whole_start (and what it stands on); all else here is the same for every law, but numbers. -/
def R_law : String := "LoanCasesLaw"
def lw_P (b : Addr) (xs : List Int32) (args : Array Value) (s : State) : Prop := args = #[.ref b] ∧ s.IntsAt b xs ∧ xs.length ≤ 3072 ∧ (Jvm.Cond.and given_1 narrow_1).before args s = true
def lw_Q (_ : Array Value) (s : State) (o : Outcome) (t : State) : Prop := o = .returned (some (.int 1)) ∧ Framed s o t [] 603072 7262314
def lw_Z (below : List Frame) (a : Array Value) (s : State) : State → Prop := fun t => ∃ o, t.status = .running ∧ Ended t below o ∧ lw_Q a s o t
/-- the law's own end, with 1 on the stack, nothing written that was there before, its room as the claim has it -/
theorem lw_ret {p : Program} {l : Launch} {e : Env} {s : State} {m : MethodId} {below : List Frame} {meth : Method} {c : Code} {b : Nat} (hx : p.tables.exec = Jvm.exec) (hb : c.code = code) (hr : meth.sig.returnType = ret) (hlocks : meth.locks = false) {pc : Nat} {H : Heap} {ls : Array Slot} (hdg : decode code pc = .ok (.ireturn, 1)) : W p l e room_1 s m #[Value.ref b] below meth c H [] 603072 7262314 (lw_Z below #[Value.ref b] s) (F0 m pc ls [.int 1]) := by
  intro T hT X
  obtain ⟨fs, hret, hrun, hended, hW, hframe⟩ := X.leave (v := some (.int 1)) (hlocks := hlocks) (fun h => by rw [hr] at h; cases h)
  have hmeth' : T.vm.method? m = some meth := X.method'
  refine ⟨T.setFrames fs, ?_, .returned (some (.int 1)), hrun, hended, rfl, ⟨_, rfl⟩, hW, hframe⟩
  jvm_step X.here [X.here.top, hx, hb, hdg, hmeth', hr, ret, narrow_b1]
  (try refine ⟨rfl, ?_⟩); (try refine ⟨rfl, ?_⟩)
  first | (intro acts; rw [hret _ acts rfl rfl rfl]) | rw [hret _ _ rfl rfl rfl]
  exact Steps.refl _
/-- what holds at the law's entry: the machine, the code, the tables' words (any of lw_tbl by 'hts w (by decide +kernel)'), the script of L ints xs at the cell b, what the Statement gives of the start (any of its parts by flat_of_before) -/
def lw_At (p : Program) (s : State) (m : MethodId) (meth : Method) (c : Code) (b L : Nat) (xs : Nat → Int32) : Prop :=
  p.tables.exec = Jvm.exec ∧ c.code = code ∧ meth.sig.returnType = ret ∧ c.maxLocals = 8 ∧ s.vm.findClass R_law = some m.cls ∧ (∀ w ∈ lw_tbl, w.before #[Value.ref b] s = true) ∧ va_X b L xs s s.heap ∧ b < s.heap.size ∧ meth.locks = false ∧ (Jvm.Cond.and given_1 narrow_1).before #[Value.ref b] s = true

/-- the tables as they are at the law's entry -/
def lwK (D : va_G) (kI kJ kL : ClassId) (sa1 sa2 : Nat) (s : State) : Prop := va_K D vwCl (xTY kI kJ kL) s ∧ xNest s ∧ xThr sa1 sa2 (fun q : Nat => s.heap.size ≤ q) s ∧ va_Nc RJx00060 RJx3273f s
/-- between two calls: the class's cells, the reference's and the law's own, beside each other -/
def lwI (D : va_G) (kI kJ kL : ClassId) (s : State) (x y o : Nat) (H : Heap) (locs : List Loc) : Prop := ∃ (a q : Nat → Nat) (S : Nat → Nat → Int32) (N : Nat → Nat → Nat → Int32) (F : Nat → Option Nat) (B n : Nat) (am : Nat → Nat) (M : Nat → Nat → Int32) (G g : Nat → Int64), a 0 = x ∧ am 0 = y ∧ Rl n B S N M G ∧ (∀ j, j < B → F j = some (q (4 * j))) ∧ va_P D vwCl (xW kI kL a q S N F B ++ (mW kI kJ am M G ++ [(o, .inl (kJ, 1, .inr (.inl g)))])) H ∧ va_D (fun q : Nat => s.heap.size ≤ q) (xW kI kL a q S N F B ++ (mW kI kJ am M G ++ [(o, .inl (kJ, 1, .inr (.inl g)))])) ∧ va_S (fun q : Nat => s.heap.size ≤ q) s.heap H locs
theorem rotP {D : va_G} {cl : List vw_C} {w w2 w3 : va_W} {H : Heap} (h : va_P D cl (w ++ (w2 ++ w3)) H) : va_P D cl (w2 ++ (w3 ++ w)) H := by
  have := qb_swapP h
  rwa [List.append_assoc] at this
theorem rotD {A : Nat → Prop} {w w2 w3 : va_W} (h : va_D A (w ++ (w2 ++ w3))) : va_D A (w2 ++ (w3 ++ w)) := by
  have := qb_swapD h
  rwa [List.append_assoc] at this
theorem kF18 : kF 18 = 262144 := by decide +kernel
section LFacts
variable {n B : Nat} {S : Nat → Nat → Int32} {N : Nat → Nat → Nat → Int32} {M : Nat → Nat → Int32} {G : Nat → Int64}
theorem Rl.s6 (h : Rl n B S N M G) : S 6 0 = nI n := h.1.2.2.1
theorem Rl.m6 (h : Rl n B S N M G) : M 6 0 = nI n := h.1.2.2.2.1
theorem Rl.s7 (h : Rl n B S N M G) : S 7 0 = nI B := h.1.2.2.2.2.1
theorem Rl.m7 (h : Rl n B S N M G) : M 7 0 = nI B := h.1.2.2.2.2.2
theorem Rl.n110 (h : Rl n B S N M G) : n ≤ 110 := h.1.1
theorem Rl.b8 (h : Rl n B S N M G) : B ≤ 8 := h.1.2.1
theorem Rl.s110 (h : Rl n B S N M G) : (S 6 0).toInt ≤ 110 := by
  have := h.1.1
  rw [h.s6, nI_toInt (by omega)]
  omega
theorem Rl.fm (h : Rl n B S N M G) : ∀ i, i < 110 → vp_in (M 0 i) 19 := h.2.1.1
theorem Rl.ssz (h : Rl n B S N M G) : ∀ i, i < 110 → ∃ z : Nat, z ≤ 10 ∧ M 2 i = nI z := h.2.1.2.1
theorem Rl.pv (h : Rl n B S N M G) : ∀ i, i < 1100 → M 4 i < 0 ∨ vp_in (M 4 i) 110 := h.2.1.2.2.1
theorem Rl.b11 (h : Rl n B S N M G) : ∀ i, i < 64 → vp_in (M 11 i) 110 := h.2.1.2.2.2.1
theorem Rl.v13 (h : Rl n B S N M G) : ∀ i, i < 64 → M 13 i < 0 ∨ vp_in (M 13 i) 110 := h.2.1.2.2.2.2.1
theorem Rl.w9 (h : Rl n B S N M G) : ∀ i, i < 8 → ∃ w : Nat, w ≤ 8 ∧ M 9 i = nI w := h.2.1.2.2.2.2.2.1
theorem Rl.en (h : Rl n B S N M G) : ∀ t : Int32, (t < 0 ∨ vp_in t 110) → men M 110 t := h.2.1.2.2.2.2.2.2.1
theorem Rl.k18 (h : Rl n B S N M G) : M 14 18 = 262144 := by rw [h.2.1.2.2.2.2.2.2.2.1]; exact kF18
theorem Rl.z10 (h : Rl n B S N M G) : ∀ t, t < 110 → (S 2 t).toInt ≤ 10 := h.2.2.1
theorem Rl.ww (h : Rl n B S N M G) : ∀ j, j < B → ∃ w : Nat, w ≤ 8 ∧ N j 1 0 = nI w := fun j hj => by
  obtain ⟨_, _, w, hw, l3, _⟩ := h.2.2.2.2.1 j hj
  exact ⟨w, hw, l3⟩
theorem Rl.wn (h : Rl n B S N M G) : ∀ j, j < B → ¬ N j 1 0 < 0 := fun j hj => by
  obtain ⟨w, hw, e⟩ := h.ww j hj
  rw [e]
  exact nI_pos (by omega)
theorem Rl.bb (h : Rl n B S N M G) : ∀ j w, j < B → nI w < N j 1 0 → w < 8 → vp_in (N j 3 w) 110 := fun j w hj hw hw8 => by
  have hn := h.1.1
  obtain ⟨_, _, wn, hwn, l3, l4, l5, _⟩ := h.2.2.2.2.1 j hj
  rw [l3] at hw
  obtain ⟨a1, _, _, _, _, b, hb, eb, _⟩ := l5 w ((nI_ltI (by omega) (by omega)).mp hw)
  rw [a1, eb]
  exact vp_in_nI (by omega) (by omega)
end LFacts
section LCalls
variable {p : Program} {l : Launch} {e : Env} {R : Room} {s : State} {m : MethodId} {args : Array Value} {below : List Frame} {meth : Method} {c : Code} {H H0 : Heap} {locs : List Loc} {cells slots mc ms : Nat} {Q : State → Prop} {pc : Nat} {ls : Array Slot} {st0 rest : List Value} {a : Array Value} {D : va_G} {TY : List (ClassId × FieldType)} {w w2 : va_W} {A : Nat → Prop}
theorem qw_l {σ : Type} {post : Int64 → σ → Prop} {w' : σ → va_W} (hr : va_Run p l e R s m args below meth c H locs cells slots mc ms (F0 m pc ls st0) rest (va_Ql post (q_wB D TY w H.size w') (va_A w H.size) a) (va_A w H.size))
    (hP : va_P D vwCl (w ++ w2) H) (hD : va_D A (w ++ w2)) (hS : va_S A H0 H locs) (hA : ∀ q, H0.size ≤ q → A q)
    (kk : ∀ (r : Int64) (u : σ) (H1 : Heap) (locs1 : List Loc), post r u → va_P D vwCl (w' u ++ w2) H1 → va_D A (w' u ++ w2) → va_S A H0 H1 locs1 → W p l e R s m args below meth c H1 locs1 (cells + mc) (slots + ms) Q (F0 m (pc + 3) ls (.long r :: rest))) : W p l e R s m args below meth c H locs cells slots Q (F0 m pc ls st0) := by
  have hF := qb_free hD hS hA
  refine va_calll hr hS (fun q _ h => hF q h) hF (fun r u t H1 locs1 ht hvm hw hB hz hk hS1 => ?_)
  obtain ⟨hP1, hK1, hD1⟩ := hB
  rw [ht] at hP1
  obtain ⟨hP2, hD2⟩ := qb_join hP hD hk hF hP1 hD1
  exact kk r u H1 locs1 hw hP2 hD2 hS1
theorem q_sld {cc : ByteArray} (hexec : p.tables.exec = Jvm.exec) (hb : c.code = cc) {b L : Nat} {xs : Nat → Int32} (hX : va_X b L xs s H0) (hbl : b < H0.size) (hbA : ¬ A b) (hS : va_S A H0 H locs) {i v : Int32} (hin : vp_in i L) (ev : xs i.toNatClampNeg = v) (hdg : decode cc pc = .ok (.iaload, 1))
    (kk : W p l e R s m args below meth c H locs cells slots Q (F0 m (pc + 1) ls (.int v :: rest))) : W p l e R s m args below meth c H locs cells slots Q (F0 m pc ls (.int i :: .ref b :: rest)) := va_sld hexec hb hX hbl hbA hS hin hdg (by rw [ev]; exact kk)
end LCalls
theorem dropP {D : va_G} {cl : List vw_C} {kI kL : ClassId} {a q : Nat → Nat} {S : Nat → Nat → Int32} {N : Nat → Nat → Nat → Int32} {F : Nat → Option Nat} {B : Nat} {w2 : va_W} {H : Heap} (h : va_P D cl (xW kI kL a q S N F B ++ w2) H) : va_P D cl (xW kI kL a q S N F 0 ++ w2) H := by
  have h1 := qb_swapP h
  rw [← List.append_assoc] at h1
  have h2 := qb_swapP (qb_Pl h1)
  have e : xW kI kL a q S N F 0 = xF kI kL a S F := by simp [xP]
  rw [e]
  exact h2
theorem dropD {A : Nat → Prop} {kI kL : ClassId} {a q : Nat → Nat} {S : Nat → Nat → Int32} {N : Nat → Nat → Nat → Int32} {F : Nat → Option Nat} {B : Nat} {w2 : va_W} (h : va_D A (xW kI kL a q S N F B ++ w2)) : va_D A (xW kI kL a q S N F 0 ++ w2) := by
  have h1 := qb_swapD h
  rw [← List.append_assoc] at h1
  have h2 := qb_swapD (qb_Dl h1)
  have e : xW kI kL a q S N F 0 = xF kI kL a S F := by simp [xP]
  rw [e]
  exact h2
theorem q_lBlind (D : va_G) (TY : List (ClassId × FieldType)) (w : va_W) (sz sa1 sa2 : Nat) (as : List Value) : FrameBlind (q_lP D TY w sz sa1 sa2 as) := fun a U g mk q => by
  obtain ⟨q0, ⟨q1, qP, qK, qD, qN, qT⟩, qC⟩ := q
  exact ⟨q0, ⟨q1, qP, va_K.moved (u := U) (U := U.calling g mk a) (Vm.Alike.refl U.vm) qK, qD, qN.same rfl, qT.calling⟩, va_Nc.moved (u := U) (U := U.calling g mk a) (Vm.Alike.refl U.vm) qC⟩
theorem q_lS {A : Nat → Prop} {D : va_G} {TY : List (ClassId × FieldType)} {w w2 : va_W} {s : State} {H : Heap} {locs : List Loc} {As : List Value} {sa1 sa2 : Nat} (hK : va_K D vwCl TY s) (hN : xNest s) (hT : xThr sa1 sa2 A s) (hNc : va_Nc RJx00060 RJx3273f s) (hP : va_P D vwCl (w ++ w2) H) (hD : va_D A (w ++ w2)) (hS : va_S A s.heap H locs) (hA : ∀ q, s.heap.size ≤ q → A q) : PreS s H (q_lP D TY w H.size sa1 sa2 As) As :=
  ⟨q_lBlind D TY w _ _ _ _, fun U hU hW => ⟨rfl, ⟨by rw [hU], by rw [hU]; exact qb_Pl hP, va_K.moved hW.alike hK, (qb_Dl hD).weaken (fun _ _ _ _ => trivial), hN.warm hW, hT.warm hW hU hS.2.1 (qb_free hD hS hA)⟩, hNc.moved hW.alike⟩⟩
def wsL_lawT : List Cond := wsL_law ++ (atC.filter goodWord ++ atX.filter goodWord)
theorem wsL_lawT_in : ∀ w ∈ wsL_lawT, w ∈ lw_tbl := in_or wsL_law_in (in_or inatC inatX)
theorem gL_lawT : GoodIn wsL_lawT (va_wsS RL 63 yL_read wsL_readT) := by
  intro w hw
  rw [show va_wsS RL 63 yL_read wsL_readT = va_wsS RL 63 yL_read wsL_read ++ (atC.filter goodWord ++ atX.filter goodWord) by unfold va_wsS wsL_readT; rw [List.append_assoc]] at hw
  rcases List.mem_append.mp hw with h | h
  · exact ⟨List.mem_append_left _ (gL_law_L_read w h).1, (gL_law_L_read w h).2⟩
  · refine ⟨List.mem_append_right _ h, good_of_word ?_⟩
    rcases List.mem_append.mp h with h | h
    · exact all_filter_good _ w h
    · exact all_filter_good _ w h
theorem cmp_self (v : Int64) : lg_cmp v v = 0 := by
  unfold lg_cmp
  rw [if_neg (by exact Int64.lt_irrefl), if_pos rfl]
theorem sc_in {i L : Nat} (k : Nat) (hi : i + 6 ≤ L) (hL : L ≤ 3072) (hk : k < 6) : vp_in (nI i + nI k) L := by
  rw [nI_add]
  exact vp_in_nI (by omega) (by omega)
theorem hownL {s : State} {c : ClassId} (h : s.vm.findClass R_law = some c) : s.vm.findClass RL = some c := h
