theorem small_ext {x : Int64} (h1 : -2147483648 ≤ x.toInt) (h2 : x.toInt < 2147483648) : x.toInt32.toInt64 = x := by
  apply Int64.toInt_inj.mp
  rw [Int32.toInt_toInt64, Int64.toInt_toInt32]
  simp only [Int.bmod_def]
  split <;> omega
theorem fits_iff {v : Int64} : lg_cmp v v.toInt32.toInt64 = 0 ↔ mIn v (-2147483648) 2147483647 := by
  have e : lg_cmp v v.toInt32.toInt64 = 0 ↔ v = v.toInt32.toInt64 := by
    unfold lg_cmp
    by_cases q : v > v.toInt32.toInt64
    · rw [if_pos q]
      exact ⟨fun z => absurd z (by decide), fun z => absurd q (by rw [← z]; exact Int64.lt_irrefl)⟩
    · rw [if_neg q]
      by_cases w : v = v.toInt32.toInt64
      · rw [if_pos w]
        exact ⟨fun _ => w, fun _ => rfl⟩
      · rw [if_neg w]
        exact ⟨fun z => absurd z (by decide), fun z => absurd z w⟩
  rw [e, mIn_iff, show (-2147483648 : Int64).toInt = -2147483648 by decide, show (2147483647 : Int64).toInt = 2147483647 by decide]
  constructor
  · intro z
    have := congrArg Int64.toInt z
    rw [Int32.toInt_toInt64] at this
    have h1 := Int32.le_toInt v.toInt32
    have h2 := Int32.toInt_lt v.toInt32
    omega
  · intro ⟨h1, h2⟩
    exact (small_ext h1 (by omega)).symm
theorem and_small (v : Int64) (k : Nat) (hk : k ≤ 16) (c : Int64) (hc : c.toBitVec.toNat = 2 ^ k - 1) : 0 ≤ (v &&& c).toInt ∧ (v &&& c).toInt < 65536 := by
  have h : (v &&& c).toBitVec.toNat = v.toBitVec.toNat % 2 ^ k := by
    rw [Int64.toBitVec_and, BitVec.toNat_and, hc, Nat.and_two_pow_sub_one_eq_mod]
  have hlt : (v &&& c).toBitVec.toNat < 65536 := by
    rw [h]
    have h1 : v.toBitVec.toNat % 2 ^ k < 2 ^ k := Nat.mod_lt _ (Nat.two_pow_pos k)
    have h2 : 2 ^ k ≤ 2 ^ 16 := Nat.pow_le_pow_right (by omega) hk
    omega
  have e : (v &&& c).toInt = ((v &&& c).toBitVec.toNat : Int) := BitVec.toInt_eq_toNat_of_lt (by omega)
  omega
theorem bm16 (N : Int) : (((N.bmod 18446744073709551616).bmod 4294967296).bmod 65536) = N.bmod 65536 := by
  rw [Int.bmod_bmod_of_dvd (by decide), Int.bmod_bmod_of_dvd (by decide)]
theorem bm48 (N : Int) : ((N * 281474976710656).bmod 18446744073709551616) / 281474976710656 = N.bmod 65536 := by
  have h : (N * 281474976710656).bmod 18446744073709551616 = N.bmod 65536 * 281474976710656 := by
    have := Int.bmod_def (N * 281474976710656) 18446744073709551616
    have h2 := Int.bmod_def N 65536
    have h3 : (N * 281474976710656) % ((18446744073709551616 : Nat) : Int) = (N % 65536) * 281474976710656 := by
      rw [show ((18446744073709551616 : Nat) : Int) = 281474976710656 * 65536 by decide, Int.mul_comm N, Int.mul_emod_mul_of_pos _ _ (by decide), Int.mul_comm]
    rw [this, h2, h3]
    generalize hr : N % 65536 = r
    by_cases q : r < 32768
    · rw [if_pos, if_pos]
      · show r < 32768
        exact q
      · show r * 281474976710656 < 9223372036854775808
        omega
    · rw [if_neg, if_neg]
      · show r * 281474976710656 - 18446744073709551616 = (r - 65536) * 281474976710656
        omega
      · show ¬ r < 32768
        exact q
      · show ¬ r * 281474976710656 < 9223372036854775808
        omega
  rw [h, Int.mul_ediv_cancel _ (by decide)]
theorem sx16 (v : Int64) : v.toInt32.toInt16.toInt32.toInt64 = (v <<< ((48 : Int32).toInt64 &&& 63)) >>> ((48 : Int32).toInt64 &&& 63) := by
  apply Int64.toInt_inj.mp
  rw [Int32.toInt_toInt64, Int16.toInt_toInt32, Int32.toInt_toInt16, Int64.toInt_toInt32]
  have hs : ((48 : Int32).toInt64 &&& 63) = 48 := by decide
  rw [hs]
  have e1 : ((v <<< (48 : Int64)) >>> (48 : Int64)).toInt = ((v.toBitVec <<< 48).sshiftRight 48).toInt := by
    rfl
  rw [e1, BitVec.toInt_sshiftRight, BitVec.toInt_shiftLeft]
  have e2 : v.toInt = (v.toBitVec.toNat : Int).bmod (2 ^ 64) := BitVec.toInt_eq_toNat_bmod v.toBitVec
  rw [e2, Nat.shiftLeft_eq, Int.shiftRight_eq_div_pow]
  generalize v.toBitVec.toNat = N
  rw [show (2 ^ 64 : Nat) = 18446744073709551616 by decide, show (2 ^ 48 : Nat) = 281474976710656 by decide, show (2 ^ 32 : Nat) = 4294967296 by decide, show (2 ^ 16 : Nat) = 65536 by decide, bm16, Int.natCast_mul]
  exact (bm48 _).symm
