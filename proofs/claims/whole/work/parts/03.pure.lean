/-! what the class's methods say, without the machine -/
def btw (x lo hi : Int32) : Prop := ¬ x < lo ∧ ¬ hi < x
def xT (S : Nat → Nat → Int32) (t : Int32) : Prop := ¬ t < 0 ∧ ¬ S 6 0 ≤ t
def xK (S : Nat → Nat → Int32) (t : Int32) : Prop := xT S t ∧ S 0 t.toNatClampNeg = 18
def xTN (S : Nat → Nat → Int32) (t : Int32) : Prop := t = -5 ∨ xT S t
def xPl (S : Nat → Nat → Int32) (t i : Int32) : Prop := ¬ i < 0 ∧ ¬ S 2 t.toNatClampNeg ≤ i
def fIs (f k : Int32) : Prop := k = f ∨ k = 20 ∨ ((f = 1 ∨ f = 3) ∧ k = 0) ∨ (f = 2 ∧ (k = 0 ∨ k = 1 ∨ k = 19)) ∨ (f = 4 ∧ k = 19) ∨ ((f = 11 ∨ f = 13) ∧ k = 10) ∨ (f = 12 ∧ (k = 10 ∨ k = 11 ∨ k = 14))
def xOf (S : Nat → Nat → Int32) (t k : Int32) : Prop := xT S t ∧ fIs (S 0 t.toNatClampNeg) k
def xPs (S : Nat → Nat → Int32) (t k : Int32) : Prop := t = -5 ∨ xOf S t k
def xpo (k : Int32) : Int32 := if k = 9 then 6 else if k = 10 then 0 else if k = 11 then 1 else if k = 12 then 2 else if k = 13 then 3 else if k = 14 then 19 else if k = 15 then 11 else if k = 16 then 14 else if k = 17 then 15 else -5
def xwo (f y : Int32) : Int32 := if f = 1 then (y + 1) * 2 else if f = 2 then (y + 1) * 2 + 100 else y + 1
def xlo (k : Int32) (v : Int64) : Int32 := if k = 5 then (v &&& 65535).toInt32 else if k = 6 then v.toInt32.toInt16.toInt32 else if k = 7 then (v &&& 1).toInt32 else v.toInt32
theorem xT_in {S : Nat → Nat → Int32} {t : Int32} (hn : (S 6 0).toInt ≤ 110) (h : xT S t) : vp_in t 110 := vp_in_lt h.1 h.2 hn
/-- the chain from t on, k steps, no further than b -/
noncomputable def xch (S : Nat → Nat → Int32) (b : Int32) : Nat → Int32 → Int32
  | 0, t => t
  | k + 1, t => cif (¬ t = b ∧ xK S t) (xch S b k (S 3 t.toNatClampNeg)) t
noncomputable def xin (S : Nat → Nat → Int32) : Nat → Int32 → Int32
  | 0, t => t
  | k + 1, t => cif (xK S t) (xin S k (S 3 t.toNatClampNeg)) t
noncomputable def xdp (S : Nat → Nat → Int32) : Nat → Int32 → Int32 → Int32
  | 0, _, n => n
  | k + 1, t, n => cif (xK S t) (xdp S k (S 3 t.toNatClampNeg) (n + 1)) n
noncomputable def xkn (S : Nat → Nat → Int32) (t : Int32) : Nat → Int32
  | 0 => 0
  | k + 1 => cif (xOf S t (nI k)) (xkn S t k + 1) (xkn S t k)
noncomputable def xcc (S : Nat → Nat → Int32) (fl : Int32) : Nat → Int32
  | 0 => 0
  | k + 1 => cif (S 0 k = 18 ∧ (fl = 0 ∨ ¬ S 3 k = -5)) (xcc S fl k + 1) (xcc S fl k)
