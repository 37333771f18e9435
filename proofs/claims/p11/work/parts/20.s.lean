/-- one sign more, if it is one and there is room -/
def ladd (n : Int) (c : Int32) : Int := if (c.toInt = 10 ∨ 32 ≤ c.toInt ∧ c.toInt ≤ 126) ∧ n < 1000 then n + 1 else n
def bytU (v : Int64) (x : Int32) : Int32 := ((v.toUInt64 >>> (x.toInt64.toUInt64 &&& Int64.toUInt64 63)).toInt64).toInt32 &&& 255
def bytS (v : Int64) (x : Int32) : Int32 := (v >>> (x.toInt64 &&& 63)).toInt32 &&& 255
theorem by_cu : ∀ k, k < 64 → (((nI k).toInt64.toUInt64 &&& Int64.toUInt64 63).toBitVec % 64).toNat = k := by decide +kernel
theorem by_cs : ∀ k, k < 64 → (((nI k).toInt64 &&& 63).toBitVec.smod 64).toNat = k := by decide +kernel
theorem by_255 : ∀ i, i < 32 → 8 ≤ i → (255 : Int32).toBitVec.getLsbD i = false := by decide +kernel
theorem by_U {v : Int64} {n i : Nat} (hn : n < 57) (hi : i < 8) : (((v.toUInt64 >>> ((nI n).toInt64.toUInt64 &&& Int64.toUInt64 63)).toInt64).toInt32).toBitVec.getLsbD i = v.toBitVec.getLsbD (n + i) := by
  rw [Int64.toBitVec_toInt32, BitVec.getLsbD_signExtend, decide_eq_true (show i < 32 from by omega), Bool.true_and, if_pos (show i < 64 from by omega)]
  show (v.toUInt64 >>> ((nI n).toInt64.toUInt64 &&& Int64.toUInt64 63)).toBitVec.getLsbD i = v.toUInt64.toBitVec.getLsbD (n + i)
  rw [UInt64.toBitVec_shiftRight]
  show (v.toUInt64.toBitVec >>> (((nI n).toInt64.toUInt64 &&& Int64.toUInt64 63).toBitVec % 64).toNat).getLsbD i = _
  rw [by_cu n (by omega), BitVec.getLsbD_ushiftRight]
theorem by_S {v : Int64} {n i : Nat} (hn : n < 57) (hi : i < 8) : ((v >>> ((nI n).toInt64 &&& 63)).toInt32).toBitVec.getLsbD i = v.toBitVec.getLsbD (n + i) := by
  rw [Int64.toBitVec_toInt32, BitVec.getLsbD_signExtend, decide_eq_true (show i < 32 from by omega), Bool.true_and, if_pos (show i < 64 from by omega), Int64.toBitVec_shiftRight]
  show (v.toBitVec.sshiftRight (((nI n).toInt64 &&& 63).toBitVec.smod 64).toNat).getLsbD i = _
  rw [by_cs n (by omega), BitVec.getLsbD_sshiftRight, if_pos (show n + i < 64 from by omega), decide_eq_false (show ¬ 64 ≤ i from by omega)]
  rfl
theorem byt_eq {v : Int64} {x : Int32} (h0 : 0 ≤ x.toInt) (h1 : x.toInt ≤ 56) : bytU v x = bytS v x := by
  obtain ⟨n, e, hn, _⟩ := nI_ofI h0
  have hn2 : n < 57 := by omega
  subst e
  unfold bytU bytS
  apply Int32.toBitVec_inj.mp
  apply BitVec.eq_of_getLsbD_eq
  intro i hi
  rw [Int32.toBitVec_and, Int32.toBitVec_and, BitVec.getLsbD_and, BitVec.getLsbD_and]
  rcases Nat.lt_or_ge i 8 with q | q
  · rw [by_U hn2 q, by_S hn2 q]
  · rw [by_255 i hi q, Bool.and_false, Bool.and_false]
/-- how many there are behind the first k bytes of a long -/
def layN (n : Int) (v : Int64) : Nat → Int
  | 0 => n
  | k + 1 => ladd (layN n v k) (bytS v (nI (56 - 8 * k)))
theorem nI_bk {x : Int32} (h : 0 ≤ x.toInt) : nI x.toInt.toNat = x := by
  obtain ⟨n, e, hn, _⟩ := nI_ofI h
  rw [show x.toInt.toNat = n from (by omega)]; exact e.symm
/-- the text behind one sign more -/
def lrow (f : Nat → Int32) (n : Int) (c : Int32) : Nat → Int32 := if (c.toInt = 10 ∨ 32 ≤ c.toInt ∧ c.toInt ≤ 126) ∧ n < 1000 then upd f n.toNat c else f
def layF (f : Nat → Int32) (n : Int) (v : Int64) : Nat → Nat → Int32
  | 0 => f
  | k + 1 => lrow (layF f n v k) (layN n v k) (bytS v (nI (56 - 8 * k)))
theorem ladd_ge {n : Int} {c : Int32} : n ≤ ladd n c := by unfold ladd; split <;> omega
theorem layN_ge {n : Int} {v : Int64} : ∀ k, n ≤ layN n v k := by
  intro k
  induction k with
  | zero => exact Int.le_refl _
  | succ k ih => exact Int.le_trans ih ladd_ge
theorem lrow_cong {f g : Nat → Int32} {n : Int} {c : Int32} (h0 : 0 ≤ n) (h : ∀ j : Nat, (j : Int) < n → g j = f j) : ∀ j : Nat, (j : Int) < ladd n c → lrow g n c j = lrow f n c j := by
  intro j hj
  unfold ladd at hj
  unfold lrow
  by_cases q : (c.toInt = 10 ∨ 32 ≤ c.toInt ∧ c.toInt ≤ 126) ∧ n < 1000
  · rw [if_pos q] at hj
    rw [if_pos q, if_pos q]
    by_cases e : j = n.toNat
    · rw [e, pk_us, pk_us]
    · rw [pk_un e, pk_un e]; exact h j (by omega)
  · rw [if_neg q] at hj
    rw [if_neg q, if_neg q]; exact h j hj
theorem layF_cong {f g : Nat → Int32} {n : Int} {v : Int64} (h0 : 0 ≤ n) (h : ∀ j : Nat, (j : Int) < n → g j = f j) : ∀ k (j : Nat), (j : Int) < layN n v k → layF g n v k j = layF f n v k j := by
  intro k
  induction k with
  | zero => exact h
  | succ k ih => exact lrow_cong (Int.le_trans h0 (layN_ge k)) ih
theorem lay3_cong {f g : Nat → Int32} {n : Int} {a b c : Int64} (h0 : 0 ≤ n) (h : ∀ j : Nat, (j : Int) < n → g j = f j) : ∀ j : Nat, (j : Int) < layN (layN (layN n a 8) b 8) c 8 → layF (layF (layF g n a 8) (layN n a 8) b 8) (layN (layN n a 8) b 8) c 8 j = layF (layF (layF f n a 8) (layN n a 8) b 8) (layN (layN n a 8) b 8) c 8 j :=
  layF_cong (Int.le_trans (Int.le_trans h0 (layN_ge 8)) (layN_ge 8)) (layF_cong (Int.le_trans h0 (layN_ge 8)) (layF_cong h0 h 8) 8) 8
theorem vp_nar_c {x : Int32} (h0 : 0 ≤ x.toInt) (h1 : x.toInt ≤ 65535) : vp_nar .char x = x := by
  unfold vp_nar; rw [nc_16 h0 h1]
