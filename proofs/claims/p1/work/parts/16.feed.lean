/-- a sign on the TAPE: it is taken or not -/
def fit (n : Nat) (x : Int32) : Nat := if x = 10 ∨ (32 ≤ x ∧ x ≤ 126) then n + 1 else n
theorem fit_a {n : Nat} {x : Int32} (h : x = 10) : fit n x = n + 1 := if_pos (Or.inl h)
theorem fit_b {n : Nat} {x : Int32} (h1 : ¬ x < 32) (h2 : ¬ 126 < x) : fit n x = n + 1 := if_pos (Or.inr ⟨br_ltf_ge h1, br_gtf_le h2⟩)
theorem fit_c {n : Nat} {x : Int32} (h0 : ¬ x = 10) (h1 : x < 32) : fit n x = n := if_neg (fun h => h.elim h0 (fun h => br_ltt_ge h1 h.1))
theorem fit_d {n : Nat} {x : Int32} (h0 : ¬ x = 10) (h1 : 126 < x) : fit n x = n := if_neg (fun h => h.elim h0 (fun h => br_gtt_le h1 h.2))
theorem fit_lt {n m : Nat} {x : Int32} (h : n < m) : fit n x < m + 1 := by unfold fit; split <;> omega
/-- the byte of a long at a place -/
def bt (v : Int64) (s : Int32) : Int32 := (v >>> (s.toInt64 &&& 63)).toInt32 &&& 255
theorem bt_255 : ∀ i, i < 32 → ¬ i < 8 → (255#32).getLsbD i = false := by decide
theorem bt_eq (v : Int64) (k : Nat) (hk : k ≤ 56) (s : Int32) (h1 : ((s.toInt64 &&& 63).toBitVec.smod 64).toNat = k) (h2 : ((s.toInt64.toUInt64 &&& Int64.toUInt64 63).toBitVec % 64).toNat = k) : ((((v).toUInt64 >>> (s.toInt64.toUInt64 &&& Int64.toUInt64 63)).toInt64).toInt32 &&& 255) = bt v s := by
  unfold bt
  apply Int32.toBitVec_inj.mp
  have e1 : ((v.toUInt64 >>> (s.toInt64.toUInt64 &&& Int64.toUInt64 63)).toInt64).toBitVec = v.toBitVec >>> k := by
    rw [← h2]
    exact UInt64.toBitVec_shiftRight _ _
  have e2 : (v >>> (s.toInt64 &&& 63)).toBitVec = v.toBitVec.sshiftRight k := by
    rw [← h1]
    rfl
  show ((v.toUInt64 >>> (s.toInt64.toUInt64 &&& Int64.toUInt64 63)).toInt64).toBitVec.signExtend 32 &&& 255#32 = (v >>> (s.toInt64 &&& 63)).toBitVec.signExtend 32 &&& 255#32
  rw [e1, e2]
  apply BitVec.eq_of_getLsbD_eq
  intro i hi
  rw [BitVec.getLsbD_and, BitVec.getLsbD_and]
  by_cases h8 : i < 8
  · rw [BitVec.getLsbD_signExtend, BitVec.getLsbD_signExtend, if_pos (by omega), if_pos (by omega), BitVec.getLsbD_ushiftRight, BitVec.getLsbD_sshiftRight]
    simp [show k + i < 64 by omega, show ¬ 64 ≤ i by omega]
  · rw [bt_255 i hi h8, Bool.and_false, Bool.and_false]
theorem bt_56 (v : Int64) : ((((v).toUInt64 >>> ((56 : Int32).toInt64.toUInt64 &&& Int64.toUInt64 63)).toInt64).toInt32 &&& 255) = bt v 56 := bt_eq v 56 (by decide) 56 (by decide) (by decide)
theorem bt_48 (v : Int64) : ((((v).toUInt64 >>> ((48 : Int32).toInt64.toUInt64 &&& Int64.toUInt64 63)).toInt64).toInt32 &&& 255) = bt v 48 := bt_eq v 48 (by decide) 48 (by decide) (by decide)
theorem bt_40 (v : Int64) : ((((v).toUInt64 >>> ((40 : Int32).toInt64.toUInt64 &&& Int64.toUInt64 63)).toInt64).toInt32 &&& 255) = bt v 40 := bt_eq v 40 (by decide) 40 (by decide) (by decide)
theorem bt_32 (v : Int64) : ((((v).toUInt64 >>> ((32 : Int32).toInt64.toUInt64 &&& Int64.toUInt64 63)).toInt64).toInt32 &&& 255) = bt v 32 := bt_eq v 32 (by decide) 32 (by decide) (by decide)
theorem bt_24 (v : Int64) : ((((v).toUInt64 >>> ((24 : Int32).toInt64.toUInt64 &&& Int64.toUInt64 63)).toInt64).toInt32 &&& 255) = bt v 24 := bt_eq v 24 (by decide) 24 (by decide) (by decide)
theorem bt_16 (v : Int64) : ((((v).toUInt64 >>> ((16 : Int32).toInt64.toUInt64 &&& Int64.toUInt64 63)).toInt64).toInt32 &&& 255) = bt v 16 := bt_eq v 16 (by decide) 16 (by decide) (by decide)
theorem bt_8 (v : Int64) : ((((v).toUInt64 >>> ((8 : Int32).toInt64.toUInt64 &&& Int64.toUInt64 63)).toInt64).toInt32 &&& 255) = bt v 8 := bt_eq v 8 (by decide) 8 (by decide) (by decide)
theorem bt_0 (v : Int64) : ((((v).toUInt64 >>> ((0 : Int32).toInt64.toUInt64 &&& Int64.toUInt64 63)).toInt64).toInt32 &&& 255) = bt v 0 := bt_eq v 0 (by decide) 0 (by decide) (by decide)
/-- the eight signs of a long -/
def fed (v : Int64) (n : Nat) : Nat := fit (fit (fit (fit (fit (fit (fit (fit n (bt v 56)) (bt v 48)) (bt v 40)) (bt v 32)) (bt v 24)) (bt v 16)) (bt v 8)) (bt v 0)
theorem fed_lt {n m : Nat} (v : Int64) (h : n < m) : fed v n < m + 8 := (fit_lt (fit_lt (fit_lt (fit_lt (fit_lt (fit_lt (fit_lt (fit_lt h))))))))
def fed3 (a b c : Int64) : Nat := fed c (fed b (fed a 0))
