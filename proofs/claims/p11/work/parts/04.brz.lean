
/-- the number at a place -/
def nb (T : Nat → Int × Int64 × Nat) (p : Nat) : Int := (T p).2.1.toInt
def rowU (W : Nat → Nat → Int) (n : Nat) (r : Nat → Int) : Nat → Nat → Int := fun j => if j = n then r else W j
theorem rowU_s {W : Nat → Nat → Int} {n : Nat} {r : Nat → Int} : rowU W n r n = r := if_pos rfl
theorem rowU_n {W : Nat → Nat → Int} {n j : Nat} {r : Nat → Int} (h : ¬ j = n) : rowU W n r j = W j := if_neg h
def row5 (a b c d e h : Int) : Nat → Int := fun k => if k = 0 then a else if k = 1 then b else if k = 2 then c else if k = 3 then d else if k = 4 then e else h
/-- what is told in numbers behind a statement: of the wares wide, deep, weight, bears, breaks, habit; lids; of the shelves height, reach, room -/
def nBowl (T : Nat → Int × Int64 × Nat) (S : ((Nat → Int64) × Nat × (Nat → Int64) × Nat × (Nat → Bool) × (Nat → Bool) × Nat)) (N : ((Nat → Nat → Int) × (Nat → Bool) × (Nat → Nat → Int))) (p : Nat) : ((Nat → Nat → Int) × (Nat → Bool) × (Nat → Nat → Int)) := (rowU N.1 S.2.1 (row5 (nb T (nx T (nx T (nx T p)))) (nb T (nx T (nx T (nx T (nx T (nx T p)))))) (nb T (nx T (nx T (nx T (nx T (nx T (nx T (nx T p)))))))) (nb T (nx T (nx T (nx T (nx T (nx T (nx T (nx T (nx T (nx T p)))))))))) (nb T (nx T (nx T (nx T (nx T (nx T (nx T (nx T (nx T (nx T (nx T (nx T p)))))))))))) (N.1 S.2.1 5)), N.2)
def nLid (T : Nat → Int × Int64 × Nat) (S : ((Nat → Int64) × Nat × (Nat → Int64) × Nat × (Nat → Bool) × (Nat → Bool) × Nat)) (N : ((Nat → Nat → Int) × (Nat → Bool) × (Nat → Nat → Int))) (p : Nat) : ((Nat → Nat → Int) × (Nat → Bool) × (Nat → Nat → Int)) := (rowU N.1 S.2.1 (row5 (nb T (nx T (nx T (nx T p)))) 1 (nb T (nx T (nx T (nx T (nx T (nx T p)))))) 0 (nb T (nx T (nx T (nx T (nx T (nx T (nx T (nx T p)))))))) (N.1 S.2.1 5)), updB N.2.1 S.2.1, N.2.2)
def nShelf (T : Nat → Int × Int64 × Nat) (S : ((Nat → Int64) × Nat × (Nat → Int64) × Nat × (Nat → Bool) × (Nat → Bool) × Nat)) (N : ((Nat → Nat → Int) × (Nat → Bool) × (Nat → Nat → Int))) (p : Nat) : ((Nat → Nat → Int) × (Nat → Bool) × (Nat → Nat → Int)) := (N.1, N.2.1, rowU N.2.2 S.2.2.2.1 (fun k => if k = 0 then nb T (nx T (nx T (nx T p))) else if k = 1 then nb T (nx T (nx T (nx T (nx T (nx T p))))) else nb T (nx T (nx T (nx T (nx T (nx T (nx T (nx T p)))))))))
def nHab (T : Nat → Int × Int64 × Nat) (S : ((Nat → Int64) × Nat × (Nat → Int64) × Nat × (Nat → Bool) × (Nat → Bool) × Nat)) (N : ((Nat → Nat → Int) × (Nat → Bool) × (Nat → Nat → Int))) (p : Nat) : ((Nat → Nat → Int) × (Nat → Bool) × (Nat → Nat → Int)) := (rowU N.1 (fnd S.1 S.2.1 (T (nx T p)).2.1) (fun k => if k = 5 then nb T (nx T (nx T p)) else N.1 (fnd S.1 S.2.1 (T (nx T p)).2.1) k), N.2)
def nLine (T : Nat → Int × Int64 × Nat) (S : ((Nat → Int64) × Nat × (Nat → Int64) × Nat × (Nat → Bool) × (Nat → Bool) × Nat)) (N : ((Nat → Nat → Int) × (Nat → Bool) × (Nat → Nat → Int))) (p : Nat) : ((Nat → Nat → Int) × (Nat → Bool) × (Nat → Nat → Int)) :=
  if isW T p (WN 0) = true then nBowl T S N p else if isW T p (WN 1) = true then nLid T S N p else if isW T p (WN 2) = true then nShelf T S N p else if isW T p (WN 3) = true then N else if isW T p (WN 4) = true then nHab T S N p else N
def N0 : ((Nat → Nat → Int) × (Nat → Bool) × (Nat → Nat → Int)) := (fun _ _ => 0, fun _ => false, fun _ _ => 0)
/-- what is told in the end -/
def rFin (T : Nat → Int × Int64 × Nat) : Nat → ((Nat → Int64) × Nat × (Nat → Int64) × Nat × (Nat → Bool) × (Nat → Bool) × Nat) → ((Nat → Nat → Int) × (Nat → Bool) × (Nat → Nat → Int)) → Nat → ((Nat → Int64) × Nat × (Nat → Int64) × Nat × (Nat → Bool) × (Nat → Bool) × Nat) × ((Nat → Nat → Int) × (Nat → Bool) × (Nat → Nat → Int))
  | 0, S, N, _ => (S, N)
  | k + 1, S, N, p => if (T p).1 = 0 then (S, N) else if (rStm T S p).2 = 0 then rFin T k (sLine T S p) (nLine T S N p) (rStm T S p).1 else (S, N)
theorem rFin_end {T : Nat → Int × Int64 × Nat} {S : ((Nat → Int64) × Nat × (Nat → Int64) × Nat × (Nat → Bool) × (Nat → Bool) × Nat)} {N : ((Nat → Nat → Int) × (Nat → Bool) × (Nat → Nat → Int))} {p : Nat} (h : (T p).1 = 0) : ∀ k, rFin T k S N p = (S, N)
  | 0 => rfl
  | _ + 1 => if_pos h
theorem rFin_ok {T : Nat → Int × Int64 × Nat} {S : ((Nat → Int64) × Nat × (Nat → Int64) × Nat × (Nat → Bool) × (Nat → Bool) × Nat)} {N : ((Nat → Nat → Int) × (Nat → Bool) × (Nat → Nat → Int))} {p q : Nat} {k : Nat} (h : ¬ (T p).1 = 0) (h2 : rStm T S p = (q, 0)) : rFin T (k + 1) S N p = rFin T k (sLine T S p) (nLine T S N p) q := by
  show (if (T p).1 = 0 then (S, N) else if (rStm T S p).2 = 0 then rFin T k (sLine T S p) (nLine T S N p) (rStm T S p).1 else (S, N)) = _
  rw [if_neg h, h2]; exact if_pos rfl
def cupN (f : Nat → Int32) (n : Nat) : ((Nat → Int64) × Nat × (Nat → Int64) × Nat × (Nat → Bool) × (Nat → Bool) × Nat) × ((Nat → Nat → Int) × (Nat → Bool) × (Nat → Nat → Int)) := rFin (TKS f n) 1000 S0 N0 (tP f n 0)
theorem cupN_cong {f g : Nat → Int32} {n : Nat} (hg : ∀ j : Nat, j < n → g j = f j) : cupN g n = cupN f n := by unfold cupN; rw [TKS_cong hg, tP_cong hg]
/-- where one is behind what was right -/
theorem rNew_ok {T : Nat → Int × Int64 × Nat} {S : ((Nat → Int64) × Nat × (Nat → Int64) × Nat × (Nat → Bool) × (Nat → Bool) × Nat)} {p q : Nat} (h : rNew T S p = (q, 0)) : q = nx T p := by
  unfold rNew at h
  by_cases q1 : isNm T p = true
  · rw [if_pos q1] at h
    by_cases q2 : fnd S.1 S.2.1 (T p).2.1 < S.2.1 ∨ fnd S.2.2.1 S.2.2.2.1 (T p).2.1 < S.2.2.2.1
    · rw [if_pos q2] at h; exact absurd (congrArg Prod.snd h) (flt_ne (by decide))
    · rw [if_neg q2] at h; exact (congrArg Prod.fst h).symm
  · rw [if_neg q1] at h; exact absurd (congrArg Prod.snd h) (flt_ne (by decide))
theorem rOld_ok {T : Nat → Int × Int64 × Nat} {S : ((Nat → Int64) × Nat × (Nat → Int64) × Nat × (Nat → Bool) × (Nat → Bool) × Nat)} {a : Nat → Bool} {p q : Nat} (h : rOld T S a p = (q, 0)) : q = nx T p := by
  unfold rOld at h
  by_cases q1 : isNm T p = true
  · rw [if_pos q1] at h
    by_cases q2 : fnd S.1 S.2.1 (T p).2.1 < S.2.1
    · rw [if_pos q2] at h
      by_cases q3 : a (fnd S.1 S.2.1 (T p).2.1) = true
      · rw [if_pos q3] at h; exact absurd (congrArg Prod.snd h) (flt_ne (by decide))
      · rw [if_neg q3] at h; exact (congrArg Prod.fst h).symm
    · rw [if_neg q2] at h; exact absurd (congrArg Prod.snd h) (flt_ne (by decide))
  · rw [if_neg q1] at h; exact absurd (congrArg Prod.snd h) (flt_ne (by decide))
theorem rNum_ok {T : Nat → Int × Int64 × Nat} {lo hi : Int} {p q : Nat} (h : rNum T lo hi p = (q, 0)) : q = nx T p := by
  unfold rNum at h
  by_cases q1 : (T p).1 = 2
  · rw [if_pos q1] at h
    by_cases q2 : lo ≤ (T p).2.1.toInt ∧ (T p).2.1.toInt ≤ hi
    · rw [if_pos q2] at h; exact (congrArg Prod.fst h).symm
    · rw [if_neg q2] at h; exact absurd (congrArg Prod.snd h) (flt_ne (by decide))
  · rw [if_neg q1] at h; exact absurd (congrArg Prod.snd h) (flt_ne (by decide))
theorem rAmt_ok {T : Nat → Int × Int64 × Nat} {w : Int64} {lo hi : Int} {p q : Nat} (h : rAmt T w lo hi p = (q, 0)) : q = nx T (nx T p) := by
  unfold rAmt at h
  by_cases q1 : isW T p w = true
  · rw [if_pos q1] at h; exact rNum_ok h
  · rw [if_neg q1] at h; exact absurd (congrArg Prod.snd h) (flt_ne (by decide))
/-- the class's rows hold the numbers told of w wares and s shelves -/
def CW (wd dp wt br bk hb : Nat → Int32) (lids : Int32) (ht rc rm : Nat → Int32) (w s : Int) (N : ((Nat → Nat → Int) × (Nat → Bool) × (Nat → Nat → Int))) : Prop := (∀ j : Nat, (j : Int) < w → (wd j).toInt = N.1 j 0 ∧ (dp j).toInt = N.1 j 1 ∧ (wt j).toInt = N.1 j 2 ∧ (br j).toInt = N.1 j 3 ∧ (bk j).toInt = N.1 j 4) ∧ (∀ j, j < 12 → (hb j).toInt = N.1 j 5) ∧ (∀ j, j < 12 → BT lids j = N.2.1 j) ∧ (∀ j : Nat, (j : Int) < s → (ht j).toInt = N.2.2 j 0 ∧ (rc j).toInt = N.2.2 j 1 ∧ (rm j).toInt = N.2.2 j 2)
theorem CW.bowl {T : Nat → Int × Int64 × Nat} {wd dp wt br bk hb wd' dp' wt' br' bk' : Nat → Int32} {lids : Int32} {ht rc rm : Nat → Int32} {w s w' : Int} {S : ((Nat → Int64) × Nat × (Nat → Int64) × Nat × (Nat → Bool) × (Nat → Bool) × Nat)} {N : ((Nat → Nat → Int) × (Nat → Bool) × (Nat → Nat → Int))} {p : Nat} (h : CW wd dp wt br bk hb lids ht rc rm w s N) (h0 : 0 ≤ w) (hS : w = ((S.2.1 : Nat) : Int)) (hw : w' = w + 1)
    (f0 : ∀ j : Nat, ¬ j = w.toNat → wd' j = wd j) (f1 : ∀ j : Nat, ¬ j = w.toNat → dp' j = dp j) (f2 : ∀ j : Nat, ¬ j = w.toNat → wt' j = wt j) (f3 : ∀ j : Nat, ¬ j = w.toNat → br' j = br j) (f4 : ∀ j : Nat, ¬ j = w.toNat → bk' j = bk j)
    (v0 : (wd' w.toNat).toInt = nb T (nx T (nx T (nx T p)))) (v1 : (dp' w.toNat).toInt = nb T (nx T (nx T (nx T (nx T (nx T p)))))) (v2 : (wt' w.toNat).toInt = nb T (nx T (nx T (nx T (nx T (nx T (nx T (nx T p)))))))) (v3 : (br' w.toNat).toInt = nb T (nx T (nx T (nx T (nx T (nx T (nx T (nx T (nx T (nx T p)))))))))) (v4 : (bk' w.toNat).toInt = nb T (nx T (nx T (nx T (nx T (nx T (nx T (nx T (nx T (nx T (nx T (nx T p)))))))))))) : CW wd' dp' wt' br' bk' hb lids ht rc rm w' s (nBowl T S N p) := by
  obtain ⟨a, b, c, d⟩ := h
  have en : w.toNat = S.2.1 := by omega
  rw [en] at f0 f1 f2 f3 f4 v0 v1 v2 v3 v4
  refine ⟨fun j hj => ?_, fun j hj => ?_, c, d⟩
  · show (wd' j).toInt = rowU N.1 S.2.1 _ j 0 ∧ (dp' j).toInt = rowU N.1 S.2.1 _ j 1 ∧ (wt' j).toInt = rowU N.1 S.2.1 _ j 2 ∧ (br' j).toInt = rowU N.1 S.2.1 _ j 3 ∧ (bk' j).toInt = rowU N.1 S.2.1 _ j 4
    by_cases q : j = S.2.1
    · rw [q, rowU_s]; exact ⟨v0, v1, v2, v3, v4⟩
    · rw [rowU_n q, f0 j q, f1 j q, f2 j q, f3 j q, f4 j q]; exact a j (by omega)
  · show (hb j).toInt = rowU N.1 S.2.1 _ j 5
    by_cases q : j = S.2.1
    · rw [q, rowU_s]; exact b S.2.1 (by omega)
    · rw [rowU_n q]; exact b j hj
theorem CW.lid {T : Nat → Int × Int64 × Nat} {wd dp wt br bk hb wd' dp' wt' br' bk' : Nat → Int32} {lids lids' k : Int32} {ht rc rm : Nat → Int32} {w s w' : Int} {S : ((Nat → Int64) × Nat × (Nat → Int64) × Nat × (Nat → Bool) × (Nat → Bool) × Nat)} {N : ((Nat → Nat → Int) × (Nat → Bool) × (Nat → Nat → Int))} {p : Nat} (h : CW wd dp wt br bk hb lids ht rc rm w s N) (h0 : 0 ≤ w) (h12 : w < 12) (hk : k.toInt = w) (hl : lids' = lids ||| ((1 : Int32) <<< (k &&& 31))) (hS : w = ((S.2.1 : Nat) : Int)) (hw : w' = w + 1)
    (f0 : ∀ j : Nat, ¬ j = w.toNat → wd' j = wd j) (f1 : ∀ j : Nat, ¬ j = w.toNat → dp' j = dp j) (f2 : ∀ j : Nat, ¬ j = w.toNat → wt' j = wt j) (f3 : ∀ j : Nat, ¬ j = w.toNat → br' j = br j) (f4 : ∀ j : Nat, ¬ j = w.toNat → bk' j = bk j)
    (v0 : (wd' w.toNat).toInt = nb T (nx T (nx T (nx T p)))) (v1 : (dp' w.toNat).toInt = 1) (v2 : (wt' w.toNat).toInt = nb T (nx T (nx T (nx T (nx T (nx T p)))))) (v3 : (br' w.toNat).toInt = 0) (v4 : (bk' w.toNat).toInt = nb T (nx T (nx T (nx T (nx T (nx T (nx T (nx T p)))))))) : CW wd' dp' wt' br' bk' hb lids' ht rc rm w' s (nLid T S N p) := by
  obtain ⟨a, b, c, d⟩ := h
  have en : w.toNat = S.2.1 := by omega
  rw [en] at f0 f1 f2 f3 f4 v0 v1 v2 v3 v4
  refine ⟨fun j hj => ?_, fun j hj => ?_, fun j hj => ?_, d⟩
  · show (wd' j).toInt = rowU N.1 S.2.1 _ j 0 ∧ (dp' j).toInt = rowU N.1 S.2.1 _ j 1 ∧ (wt' j).toInt = rowU N.1 S.2.1 _ j 2 ∧ (br' j).toInt = rowU N.1 S.2.1 _ j 3 ∧ (bk' j).toInt = rowU N.1 S.2.1 _ j 4
    by_cases q : j = S.2.1
    · rw [q, rowU_s]; exact ⟨v0, v1, v2, v3, v4⟩
    · rw [rowU_n q, f0 j q, f1 j q, f2 j q, f3 j q, f4 j q]; exact a j (by omega)
  · show (hb j).toInt = rowU N.1 S.2.1 _ j 5
    by_cases q : j = S.2.1
    · rw [q, rowU_s]; exact b S.2.1 (by omega)
    · rw [rowU_n q]; exact b j hj
  · show BT lids' j = updB N.2.1 S.2.1 j
    rw [hl, bt_or (by omega) (by omega) hj, updB_or, c j hj, hk, en]
theorem CW.shelf {T : Nat → Int × Int64 × Nat} {wd dp wt br bk hb : Nat → Int32} {lids : Int32} {ht rc rm ht' rc' rm' : Nat → Int32} {w s s' : Int} {S : ((Nat → Int64) × Nat × (Nat → Int64) × Nat × (Nat → Bool) × (Nat → Bool) × Nat)} {N : ((Nat → Nat → Int) × (Nat → Bool) × (Nat → Nat → Int))} {p : Nat} (h : CW wd dp wt br bk hb lids ht rc rm w s N) (h0 : 0 ≤ s) (hS : s = ((S.2.2.2.1 : Nat) : Int)) (hw : s' = s + 1)
    (f0 : ∀ j : Nat, ¬ j = s.toNat → ht' j = ht j) (f1 : ∀ j : Nat, ¬ j = s.toNat → rc' j = rc j) (f2 : ∀ j : Nat, ¬ j = s.toNat → rm' j = rm j)
    (v0 : (ht' s.toNat).toInt = nb T (nx T (nx T (nx T p)))) (v1 : (rc' s.toNat).toInt = nb T (nx T (nx T (nx T (nx T (nx T p)))))) (v2 : (rm' s.toNat).toInt = nb T (nx T (nx T (nx T (nx T (nx T (nx T (nx T p)))))))) : CW wd dp wt br bk hb lids ht' rc' rm' w s' (nShelf T S N p) := by
  obtain ⟨a, b, c, d⟩ := h
  have en : s.toNat = S.2.2.2.1 := by omega
  rw [en] at f0 f1 f2 v0 v1 v2
  refine ⟨a, b, c, fun j hj => ?_⟩
  show (ht' j).toInt = rowU N.2.2 S.2.2.2.1 _ j 0 ∧ (rc' j).toInt = rowU N.2.2 S.2.2.2.1 _ j 1 ∧ (rm' j).toInt = rowU N.2.2 S.2.2.2.1 _ j 2
  by_cases q : j = S.2.2.2.1
  · rw [q, rowU_s]; exact ⟨v0, v1, v2⟩
  · rw [rowU_n q, f0 j q, f1 j q, f2 j q]; exact d j (by omega)
theorem CW.hab {T : Nat → Int × Int64 × Nat} {wd dp wt br bk hb hb' : Nat → Int32} {lids : Int32} {ht rc rm : Nat → Int32} {w s : Int} {S : ((Nat → Int64) × Nat × (Nat → Int64) × Nat × (Nat → Bool) × (Nat → Bool) × Nat)} {N : ((Nat → Nat → Int) × (Nat → Bool) × (Nat → Nat → Int))} {p k : Nat} (h : CW wd dp wt br bk hb lids ht rc rm w s N) (hk : k = fnd S.1 S.2.1 (T (nx T p)).2.1) (f0 : ∀ j : Nat, ¬ j = k → hb' j = hb j) (v0 : (hb' k).toInt = nb T (nx T (nx T p))) : CW wd dp wt br bk hb' lids ht rc rm w s (nHab T S N p) := by
  obtain ⟨a, b, c, d⟩ := h
  refine ⟨fun j hj => ?_, fun j hj => ?_, c, d⟩
  · show (wd j).toInt = rowU N.1 (fnd S.1 S.2.1 (T (nx T p)).2.1) _ j 0 ∧ (dp j).toInt = rowU N.1 (fnd S.1 S.2.1 (T (nx T p)).2.1) _ j 1 ∧ (wt j).toInt = rowU N.1 (fnd S.1 S.2.1 (T (nx T p)).2.1) _ j 2 ∧ (br j).toInt = rowU N.1 (fnd S.1 S.2.1 (T (nx T p)).2.1) _ j 3 ∧ (bk j).toInt = rowU N.1 (fnd S.1 S.2.1 (T (nx T p)).2.1) _ j 4
    rw [← hk]
    by_cases q : j = k
    · rw [q, rowU_s]; rw [q] at hj; exact a k hj
    · rw [rowU_n q]; exact a j hj
  · show (hb' j).toInt = rowU N.1 (fnd S.1 S.2.1 (T (nx T p)).2.1) _ j 5
    rw [← hk]
    by_cases q : j = k
    · rw [q, rowU_s]; exact v0
    · rw [rowU_n q, f0 j q]; exact b j hj

/-- the step of a joint; which fact a word is -/
def jcd (T : Nat → Int × Int64 × Nat) (rk p : Nat) : Int := if rk = 0 then (if isW T p (WN 15) = true then -10 else -11) else if rk = 1 then (if isG T p 60 = true then -12 else -13) else if rk = 2 then (if isG T p 43 = true then -14 else -15) else -16
def fci (T : Nat → Int × Int64 × Nat) (p : Nat) : Nat := if isW T p (WN 17) = true then 0 else if isW T p (WN 18) = true then 1 else if isW T p (WN 19) = true then 2 else if isW T p (WN 7) = true then 3 else if isW T p (WN 20) = true then 4 else if isW T p (WN 21) = true then 5 else if isW T p (WN 1) = true then 6 else 7
theorem jcd_lt (T : Nat → Int × Int64 × Nat) (rk q : Nat) : jcd T rk q < -9 := by
  unfold jcd; (repeat' split) <;> omega
theorem jcd_ge (T : Nat → Int × Int64 × Nat) (rk q : Nat) : -16 ≤ jcd T rk q := by
  unfold jcd; (repeat' split) <;> omega
theorem fci_lt (T : Nat → Int × Int64 × Nat) (q : Nat) : fci T q < 8 := by
  unfold fci; (repeat' split) <;> omega
def jn6 (x : Int) (a b : Int32) : Int32 := if x = -10 then (if ¬ a = 0 ∧ ¬ b = 0 then 1 else 0) else if x = -11 then (if ¬ a = 0 ∨ ¬ b = 0 then 1 else 0) else if x = -12 then (if a < b then 1 else 0) else if x = -13 then (if a = b then 1 else 0) else if x = -14 then a + b else if x = -15 then a - b else a * b
/-- the worth of a chain: behind its first one; of parts -/
def chV (sub : Nat → Nat × Int) (vs : Nat → Int32) (nxt : Nat → Nat) (jn : Nat → Bool) (cj : Nat → Int) : Nat → Nat × Int → Int32 → Int32
  | 0, _, a => a
  | k + 1, r, a => if r.2 = 0 ∧ jn r.1 = true then chV sub vs nxt jn cj k (sub (nxt r.1)) (jn6 (cj r.1) a (vs (nxt r.1))) else a
def vLv (T : Nat → Int × Int64 × Nat) (P : Nat → Nat × Int) (V : Nat → (Nat → Int32) → Int32) : Nat → Nat → (Nat → Int32) → Int32
  | 0 => V
  | k + 1 => fun p fc => chV (rLv T P k) (fun q => vLv T P V k q fc) (nx T) (jnt T (3 - k)) (jcd T (3 - k)) (mst (3 - k)) (rLv T P k p) (vLv T P V k p fc)
def vPt (T : Nat → Int × Int64 × Nat) : Nat → Nat → (Nat → Int32) → Int32
  | 0 => fun _ _ => 0
  | d + 1 => fun p fc => if isG T p 40 = true then vLv T (rPt T d) (vPt T d) 4 (nx T p) fc else if isW T p (WN 14) = true then (if vPt T d (nx T p) fc = 0 then 1 else 0) else if (T p).1 = 2 then (T p).2.1.toInt32 else fc (fci T p)
/-- a chain under way: A is what it is worth so far, R what it is worth in the end -/
def CV (T : Nat → Int × Int64 × Nat) (sub : Nat → Nat × Int) (vs : Nat → (Nat → Int32) → Int32) (jn : Nat → Bool) (cj : Nat → Int) (k pl : Nat) (R A : (Nat → Int32) → Int32) : Prop := ∀ fc : Nat → Int32, chV sub (fun q => vs q fc) (nx T) jn cj k (pl, 0) (A fc) = R fc
theorem CV.step {T : Nat → Int × Int64 × Nat} {sub : Nat → Nat × Int} {vs : Nat → (Nat → Int32) → Int32} {jn : Nat → Bool} {cj : Nat → Int} {k pl q pl' : Nat} {R A : (Nat → Int32) → Int32} (h : CV T sub vs jn cj (k + 1) pl R A) (hj : jn pl = true) (hq : q = nx T pl) (hs : sub q = (pl', 0)) : CV T sub vs jn cj k pl' R (fun fc => jn6 (cj pl) (A fc) (vs q fc)) := fun fc => by
  have e := h fc
  have e2 : chV sub (fun q => vs q fc) (nx T) jn cj (k + 1) (pl, 0) (A fc) = chV sub (fun q => vs q fc) (nx T) jn cj k (sub (nx T pl)) (jn6 (cj pl) (A fc) (vs (nx T pl) fc)) := if_pos ⟨rfl, hj⟩
  rw [e2, ← hq, hs] at e
  exact e
theorem CV.stop {T : Nat → Int × Int64 × Nat} {sub : Nat → Nat × Int} {vs : Nat → (Nat → Int32) → Int32} {jn : Nat → Bool} {cj : Nat → Int} {k pl : Nat} {R A : (Nat → Int32) → Int32} (h : CV T sub vs jn cj k pl R A) (hj : k = 0 ∨ ¬ jn pl = true) : A = R := funext fun fc => by
  have e := h fc
  cases k with
  | zero => exact e
  | succ k =>
    rcases hj with q | q
    · exact absurd q (Nat.succ_ne_zero k)
    · have e2 : chV sub (fun q => vs q fc) (nx T) jn cj (k + 1) (pl, 0) (A fc) = A fc := if_neg (fun z => q z.2)
      rw [e2] at e; exact e
theorem CV.start {T : Nat → Int × Int64 × Nat} {P : Nat → Nat × Int} {V : Nat → (Nat → Int32) → Int32} {k p pl : Nat} (h : rLv T P k p = (pl, 0)) : CV T (rLv T P k) (vLv T P V k) (jnt T (3 - k)) (jcd T (3 - k)) (mst (3 - k)) pl (vLv T P V (k + 1) p) (vLv T P V k p) := fun fc => by
  show _ = chV (rLv T P k) (fun q => vLv T P V k q fc) (nx T) (jnt T (3 - k)) (jcd T (3 - k)) (mst (3 - k)) (rLv T P k p) (vLv T P V k p fc)
  rw [h]
/-- the class's steps: how many wait, and they -/
def cst (fc : Nat → Int32) (x : Int32) (z : Nat × (Nat → Int32)) : Nat × (Nat → Int32) :=
  if -8 ≤ x.toInt then (if z.1 < 32 then (z.1 + 1, upd z.2 z.1 (if 0 ≤ x.toInt then x else fc (-1 - x.toInt).toNat)) else z) else if x.toInt = -9 then (if 1 ≤ z.1 then (z.1, upd z.2 (z.1 - 1) (if z.2 (z.1 - 1) = 0 then 1 else 0)) else z) else if 2 ≤ z.1 then (z.1 - 1, upd z.2 (z.1 - 2) (jn6 x.toInt (z.2 (z.1 - 2)) (z.2 (z.1 - 1)))) else z
def crun (fc f : Nat → Int32) : Nat → Nat → Nat × (Nat → Int32) → Nat × (Nat → Int32)
  | 0, _, z => z
  | k + 1, i, z => crun fc f k (i + 1) (cst fc (f i) z)
theorem crun_add {fc f : Nat → Int32} {m : Nat} : ∀ (n i : Nat) (z : Nat × (Nat → Int32)), crun fc f (n + m) i z = crun fc f m (i + n) (crun fc f n i z) := by
  intro n
  induction n with
  | zero => intro i z; rw [Nat.zero_add]; rfl
  | succ n ih =>
    intro i z
    rw [Nat.succ_add]
    show crun fc f (n + m) (i + 1) (cst fc (f i) z) = crun fc f m (i + (n + 1)) (crun fc f n (i + 1) (cst fc (f i) z))
    rw [ih (i + 1), show i + 1 + n = i + (n + 1) from (by omega)]
theorem crun_cong {fc f g : Nat → Int32} : ∀ (n i : Nat) (z : Nat × (Nat → Int32)), (∀ j, i ≤ j → j < i + n → g j = f j) → crun fc g n i z = crun fc f n i z := by
  intro n
  induction n with
  | zero => intro i z _; rfl
  | succ n ih =>
    intro i z h
    show crun fc g n (i + 1) (cst fc (g i) z) = crun fc f n (i + 1) (cst fc (f i) z)
    rw [h i (Nat.le_refl i) (by omega)]
    exact ih (i + 1) _ (fun j h1 h2 => h j (by omega) (by omega))
/-- a run that leaves one more, the worth V -/
def LV1 (z z' : Nat × (Nat → Int32)) (v : Int32) : Prop := z'.1 = z.1 + 1 ∧ z'.2 z.1 = v ∧ ∀ j, j < z.1 → z'.2 j = z.2 j
def CSeg (f : Nat → Int32) (a b h : Nat) (V : (Nat → Int32) → Int32) : Prop := a ≤ b ∧ ∀ (fc : Nat → Int32) (z : Nat × (Nat → Int32)), z.1 + h ≤ 32 → LV1 z (crun fc f (b - a) a z) (V fc)
theorem CSeg.frame {f g : Nat → Int32} {a b h : Nat} {V : (Nat → Int32) → Int32} (s : CSeg f a b h V) (hf : ∀ j, j < b → g j = f j) : CSeg g a b h V := ⟨s.1, fun fc z hz => by
  rw [crun_cong (f := f) _ _ _ (fun j h1 h2 => hf j (by have := s.1; omega))]
  exact s.2 fc z hz⟩
theorem CSeg.mono {f : Nat → Int32} {a b h k : Nat} {V : (Nat → Int32) → Int32} (s : CSeg f a b h V) (hk : h ≤ k) : CSeg f a b k V := ⟨s.1, fun fc z hz => s.2 fc z (by omega)⟩
theorem CSeg.cast {f : Nat → Int32} {a b b' h : Nat} {V W : (Nat → Int32) → Int32} (s : CSeg f a b h V) (e : b = b') (e2 : V = W) : CSeg f a b' h W := by subst e; subst e2; exact s
theorem CSeg.push {f : Nat → Int32} {a : Nat} {V : (Nat → Int32) → Int32} (hx : -8 ≤ (f a).toInt) (hv : ∀ fc : Nat → Int32, (if 0 ≤ (f a).toInt then f a else fc (-1 - (f a).toInt).toNat) = V fc) : CSeg f a (a + 1) 1 V := ⟨by omega, fun fc z hz => by
  rw [show a + 1 - a = 1 from (by omega)]
  have e : crun fc f 1 a z = (z.1 + 1, upd z.2 z.1 (V fc)) := by
    show cst fc (f a) z = _
    unfold cst
    rw [if_pos hx, if_pos (by omega), hv fc]
  rw [e]
  exact ⟨rfl, pk_us, fun j hj => pk_un (by omega)⟩⟩
theorem CSeg.num {f : Nat → Int32} {a : Nat} {x : Int32} (e : f a = x) (hx : 0 ≤ x.toInt) : CSeg f a (a + 1) 1 (fun _ => x) := CSeg.push (by rw [e]; omega) (fun fc => by rw [e, if_pos hx])
theorem CSeg.fct {f : Nat → Int32} {a k : Nat} (e : (f a).toInt = -1 - (k : Int)) (hk : k < 8) : CSeg f a (a + 1) 1 (fun fc => fc k) := CSeg.push (by omega) (fun fc => by rw [if_neg (by omega), e, show (-1 - (-1 - (k : Int))).toNat = k from (by omega)])
theorem CSeg.neg {f : Nat → Int32} {a b h : Nat} {V : (Nat → Int32) → Int32} (s : CSeg f a b h V) (e : (f b).toInt = -9) : CSeg f a (b + 1) h (fun fc => if V fc = 0 then 1 else 0) := ⟨by have := s.1; omega, fun fc z hz => by
  have g := s.1
  rw [show b + 1 - a = (b - a) + 1 from (by omega), crun_add, show a + (b - a) = b from (by omega)]
  obtain ⟨h1, h2, h3⟩ := s.2 fc z hz
  have e1 : crun fc f 1 b (crun fc f (b - a) a z) = ((crun fc f (b - a) a z).1, upd (crun fc f (b - a) a z).2 z.1 (if V fc = 0 then 1 else 0)) := by
    show cst fc (f b) _ = _
    unfold cst
    rw [if_neg (by omega), if_pos e, if_pos (by omega), h1, show z.1 + 1 - 1 = z.1 from (by omega), h2]
  rw [e1]
  exact ⟨h1, pk_us, fun j hj => (pk_un (by omega)).trans (h3 j hj)⟩⟩
theorem CSeg.bin {f : Nat → Int32} {a b c h k : Nat} {V W : (Nat → Int32) → Int32} {x : Int} (s : CSeg f a b h V) (t : CSeg f b c k W) (e : (f c).toInt = x) (hx : x < -9) (hh : h ≤ k + 1) : CSeg f a (c + 1) (k + 1) (fun fc => jn6 x (V fc) (W fc)) := ⟨by have := s.1; have := t.1; omega, fun fc z hz => by
  have g1 := s.1
  have g2 := t.1
  rw [show c + 1 - a = (b - a) + ((c - b) + 1) from (by omega), crun_add, show a + (b - a) = b from (by omega), crun_add, show b + (c - b) = c from (by omega)]
  obtain ⟨h1, h2, h3⟩ := s.2 fc z (by omega)
  obtain ⟨i1, i2, i3⟩ := t.2 fc (crun fc f (b - a) a z) (by omega)
  have j1 : (crun fc f (c - b) b (crun fc f (b - a) a z)).2 z.1 = V fc := (i3 z.1 (by omega)).trans h2
  rw [h1] at i1 i2
  have e1 : crun fc f 1 c (crun fc f (c - b) b (crun fc f (b - a) a z)) = (z.1 + 1, upd (crun fc f (c - b) b (crun fc f (b - a) a z)).2 z.1 (jn6 x (V fc) (W fc))) := by
    show cst fc (f c) _ = _
    unfold cst
    rw [if_neg (by omega), if_neg (by omega), if_pos (by omega), i1, show z.1 + 1 + 1 - 1 = z.1 + 1 from (by omega), show z.1 + 1 + 1 - 2 = z.1 from (by omega), j1, i2, e]
  rw [e1]
  exact ⟨rfl, pk_us, fun j hj => (pk_un (by omega)).trans ((i3 j (by omega)).trans (h3 j hj))⟩⟩
/-- the reference's code -/
def bth (c a b : Int32) : Int32 := if c = 4 then a + b else if c = 5 then a - b else if c = 6 then a * b else if c = 7 then (if a < b then 1 else 0) else if c = 8 then (if a = b then 1 else 0) else if c = 9 then (if ¬ a = 0 ∧ ¬ b = 0 then 1 else 0) else (if ¬ a = 0 ∨ ¬ b = 0 then 1 else 0)
theorem bj (a b : Int32) : bth 4 a b = jn6 (-14) a b ∧ bth 5 a b = jn6 (-15) a b ∧ bth 6 a b = jn6 (-16) a b ∧ bth 7 a b = jn6 (-12) a b ∧ bth 8 a b = jn6 (-13) a b ∧ bth 9 a b = jn6 (-10) a b ∧ bth 10 a b = jn6 (-11) a b := ⟨rfl, rfl, rfl, rfl, rfl, rfl, rfl⟩
def mcs (fs : Nat → Int32) (c a : Int32) (z : Nat × (Nat → Int32)) : Nat × (Nat → Int32) :=
  if c = 1 then (z.1 + 1, upd z.2 z.1 a) else if c = 2 then (z.1 + 1, upd z.2 z.1 (fs a.toInt.toNat)) else if c = 3 then (z.1, upd z.2 (z.1 - 1) (if z.2 (z.1 - 1) = 0 then 1 else 0)) else (z.1 - 1, upd z.2 (z.1 - 2) (bth c (z.2 (z.1 - 2)) (z.2 (z.1 - 1))))
def mrun (fs o a : Nat → Int32) : Nat → Nat → Nat × (Nat → Int32) → Nat × (Nat → Int32)
  | 0, _, z => z
  | k + 1, i, z => mrun fs o a k (i + 1) (mcs fs (o i) (a i) z)
theorem mrun_add {fs o a : Nat → Int32} {m : Nat} : ∀ (n i : Nat) (z : Nat × (Nat → Int32)), mrun fs o a (n + m) i z = mrun fs o a m (i + n) (mrun fs o a n i z) := by
  intro n
  induction n with
  | zero => intro i z; rw [Nat.zero_add]; rfl
  | succ n ih =>
    intro i z
    rw [Nat.succ_add]
    show mrun fs o a (n + m) (i + 1) (mcs fs (o i) (a i) z) = mrun fs o a m (i + (n + 1)) (mrun fs o a n (i + 1) (mcs fs (o i) (a i) z))
    rw [ih (i + 1), show i + 1 + n = i + (n + 1) from (by omega)]
theorem mrun_cong {fs o a o' a' : Nat → Int32} {d : Nat} : ∀ (n i : Nat) (z : Nat × (Nat → Int32)), (∀ j, i ≤ j → j < i + n → o' (j + d) = o j ∧ a' (j + d) = a j) → mrun fs o' a' n (i + d) z = mrun fs o a n i z := by
  intro n
  induction n with
  | zero => intro i z _; rfl
  | succ n ih =>
    intro i z h
    show mrun fs o' a' n (i + d + 1) (mcs fs (o' (i + d)) (a' (i + d)) z) = mrun fs o a n (i + 1) (mcs fs (o i) (a i) z)
    rw [(h i (Nat.le_refl i) (by omega)).1, (h i (Nat.le_refl i) (by omega)).2, show i + d + 1 = i + 1 + d from (by omega)]
    exact ih (i + 1) _ (fun j h1 h2 => h j (by omega) (by omega))
def MSeg (o a : Nat → Int32) (i j : Nat) (V : (Nat → Int32) → Int32) : Prop := i ≤ j ∧ (∀ t, i ≤ t → t < j → ¬ o t = 0) ∧ ∀ (fs : Nat → Int32) (z : Nat × (Nat → Int32)), LV1 z (mrun fs o a (j - i) i z) (V fs)
theorem MSeg.frame {o a o' a' : Nat → Int32} {i j : Nat} {V : (Nat → Int32) → Int32} (s : MSeg o a i j V) (h1 : ∀ t, t < j → o' t = o t) (h2 : ∀ t, t < j → a' t = a t) : MSeg o' a' i j V := ⟨s.1, fun t t1 t2 => by rw [h1 t t2]; exact s.2.1 t t1 t2, fun fs z => by
  have g := s.1
  have e : mrun fs o' a' (j - i) i z = mrun fs o a (j - i) i z := mrun_cong (d := 0) (j - i) i z (fun t t1 t2 => ⟨h1 t (by omega), h2 t (by omega)⟩)
  rw [e]; exact s.2.2 fs z⟩
theorem MSeg.shift {o a o' a' : Nat → Int32} {i j d : Nat} {V : (Nat → Int32) → Int32} (s : MSeg o a (i + d) (j + d) V) (h1 : ∀ t, i ≤ t → t < j → o' t = o (t + d)) (h2 : ∀ t, i ≤ t → t < j → a' t = a (t + d)) : MSeg o' a' i j V := ⟨by have := s.1; omega, fun t t1 t2 => by rw [h1 t t1 t2]; exact s.2.1 (t + d) (by omega) (by omega), fun fs z => by
  have g := s.1
  have e : mrun fs o a (j - i) (i + d) z = mrun fs o' a' (j - i) i z := mrun_cong (d := d) (j - i) i z (fun t t1 t2 => ⟨(h1 t t1 (by omega)).symm, (h2 t t1 (by omega)).symm⟩)
  have h := s.2.2 fs z
  rw [show j + d - (i + d) = j - i from (by omega), e] at h
  exact h⟩
theorem MSeg.cast {o a : Nat → Int32} {i j j' : Nat} {V W : (Nat → Int32) → Int32} (s : MSeg o a i j V) (e : j = j') (e2 : V = W) : MSeg o a i j' W := by subst e; subst e2; exact s
theorem MSeg.num {o a : Nat → Int32} {i : Nat} {x : Int32} (h : o i = 1) (e : a i = x) : MSeg o a i (i + 1) (fun _ => x) := ⟨by omega, fun t t1 t2 => by rw [show t = i by omega, h]; decide, fun fs z => by
  rw [show i + 1 - i = 1 from (by omega)]
  have e1 : mrun fs o a 1 i z = (z.1 + 1, upd z.2 z.1 x) := by
    show mcs fs (o i) (a i) z = _
    unfold mcs
    rw [if_pos h, e]
  rw [e1]
  exact ⟨rfl, pk_us, fun j hj => pk_un (by omega)⟩⟩
theorem MSeg.fct {o a : Nat → Int32} {i k : Nat} {x : Int32} (h : o i = 2) (e : a i = x) (hk : x.toInt.toNat = k) : MSeg o a i (i + 1) (fun fc => fc k) := ⟨by omega, fun t t1 t2 => by rw [show t = i by omega, h]; decide, fun fs z => by
  rw [show i + 1 - i = 1 from (by omega)]
  have e1 : mrun fs o a 1 i z = (z.1 + 1, upd z.2 z.1 (fs k)) := by
    show mcs fs (o i) (a i) z = _
    unfold mcs
    rw [if_neg (by rw [h]; decide), if_pos h, e, hk]
  rw [e1]
  exact ⟨rfl, pk_us, fun j hj => pk_un (by omega)⟩⟩
theorem MSeg.neg {o a : Nat → Int32} {i j : Nat} {V : (Nat → Int32) → Int32} (s : MSeg o a i j V) (h : o j = 3) : MSeg o a i (j + 1) (fun fc => if V fc = 0 then 1 else 0) := ⟨by have := s.1; omega, fun t t1 t2 => by
  by_cases q : t < j
  · exact s.2.1 t t1 q
  · rw [show t = j by omega, h]; decide, fun fs z => by
  have g := s.1
  rw [show j + 1 - i = (j - i) + 1 from (by omega), mrun_add, show i + (j - i) = j from (by omega)]
  obtain ⟨h1, h2, h3⟩ := s.2.2 fs z
  have e1 : mrun fs o a 1 j (mrun fs o a (j - i) i z) = ((mrun fs o a (j - i) i z).1, upd (mrun fs o a (j - i) i z).2 z.1 (if V fs = 0 then 1 else 0)) := by
    show mcs fs (o j) (a j) _ = _
    unfold mcs
    rw [if_neg (by rw [h]; decide), if_neg (by rw [h]; decide), if_pos h, h1, show z.1 + 1 - 1 = z.1 from (by omega), h2]
  rw [e1]
  exact ⟨h1, pk_us, fun t ht => (pk_un (by omega)).trans (h3 t ht)⟩⟩
theorem MSeg.bin {o a : Nat → Int32} {i j k : Nat} {V W : (Nat → Int32) → Int32} {c : Int32} {x : Int} (s : MSeg o a i j V) (t : MSeg o a j k W) (h : o k = c) (hc : 4 ≤ c.toInt) (hx : ∀ u v, bth c u v = jn6 x u v) : MSeg o a i (k + 1) (fun fc => jn6 x (V fc) (W fc)) := ⟨by have := s.1; have := t.1; omega, fun y y1 y2 => by
  by_cases q : y < j
  · exact s.2.1 y y1 q
  · by_cases q2 : y < k
    · exact t.2.1 y (by omega) q2
    · rw [show y = k by omega, h]; intro e; rw [e] at hc; exact absurd hc (by decide), fun fs z => by
  have g1 := s.1
  have g2 := t.1
  rw [show k + 1 - i = (j - i) + ((k - j) + 1) from (by omega), mrun_add, show i + (j - i) = j from (by omega), mrun_add, show j + (k - j) = k from (by omega)]
  obtain ⟨h1, h2, h3⟩ := s.2.2 fs z
  obtain ⟨i1, i2, i3⟩ := t.2.2 fs (mrun fs o a (j - i) i z)
  have j1 : (mrun fs o a (k - j) j (mrun fs o a (j - i) i z)).2 z.1 = V fs := (i3 z.1 (by omega)).trans h2
  rw [h1] at i1 i2
  have n1 : ¬ c = 1 := fun e => by rw [e] at hc; exact absurd hc (by decide)
  have n2 : ¬ c = 2 := fun e => by rw [e] at hc; exact absurd hc (by decide)
  have n3 : ¬ c = 3 := fun e => by rw [e] at hc; exact absurd hc (by decide)
  have e1 : mrun fs o a 1 k (mrun fs o a (k - j) j (mrun fs o a (j - i) i z)) = (z.1 + 1, upd (mrun fs o a (k - j) j (mrun fs o a (j - i) i z)).2 z.1 (jn6 x (V fs) (W fs))) := by
    show mcs fs (o k) (a k) _ = _
    unfold mcs
    rw [h, if_neg n1, if_neg n2, if_neg n3, i1, show z.1 + 1 + 1 - 1 = z.1 + 1 from (by omega), show z.1 + 1 + 1 - 2 = z.1 from (by omega), j1, i2, hx]
  rw [e1]
  exact ⟨rfl, pk_us, fun t ht => (pk_un (by omega)).trans ((i3 t (by omega)).trans (h3 t ht))⟩⟩
/-- whether one MAY stand on another: n nests of the worths E, over the facts fc; wl: it is less wide; tp: that is a top -/
def alE (E : Nat → (Nat → Int32) → Int32) (fc : Nat → Int32) : Nat → Bool
  | 0 => true
  | n + 1 => alE E fc n && !decide (E n fc = 0)
theorem alE_iff {E : Nat → (Nat → Int32) → Int32} {fc : Nat → Int32} : ∀ n, alE E fc n = true ↔ ∀ i, i < n → ¬ E i fc = 0 := by
  intro n
  induction n with
  | zero => exact ⟨fun _ i hi => absurd hi (Nat.not_lt_zero i), fun _ => rfl⟩
  | succ n ih =>
    show (alE E fc n && !decide (E n fc = 0)) = true ↔ _
    rw [Bool.and_eq_true, ih]
    constructor
    · rintro ⟨h1, h2⟩ i hi e
      rcases Nat.lt_or_ge i n with q | q
      · exact h1 i q e
      · have ei : i = n := by omega
        rw [ei] at e
        rw [decide_eq_true e] at h2; exact absurd h2 (by decide)
    · intro h
      refine ⟨fun i hi => h i (by omega), ?_⟩
      rw [decide_eq_false (h n (by omega))]; rfl
def mayP (n : Nat) (E : Nat → (Nat → Int32) → Int32) (fc : Nat → Int32) (wl tp : Bool) : Bool := !tp && (if n = 0 then wl else alE E fc n)

theorem crun_snoc {fc f : Nat → Int32} {k i : Nat} {z y : Nat × (Nat → Int32)} {x : Int32} (h : crun fc f k i z = y) (hx : f (i + k) = x) : crun fc f (k + 1) i z = cst fc x y := by rw [crun_add, h, ← hx]; rfl
theorem cst_num {fc : Nat → Int32} {x : Int32} {n n' : Nat} {g g' : Nat → Int32} (h0 : 0 ≤ x.toInt) (h1 : n < 32) (hn : n' = n + 1) (hg : g' = upd g n x) : cst fc x (n, g) = (n', g') := by
  show (if -8 ≤ x.toInt then (if n < 32 then (n + 1, upd g n (if 0 ≤ x.toInt then x else fc (-1 - x.toInt).toNat)) else (n, g)) else _) = _
  rw [if_pos (show -8 ≤ x.toInt by omega), if_pos h1, if_pos h0, hn, hg]
theorem cst_fct {fc : Nat → Int32} {x v : Int32} {n n' : Nat} {g g' : Nat → Int32} (h0 : x.toInt < 0) (h8 : -8 ≤ x.toInt) (h1 : n < 32) (hn : n' = n + 1) (hv : v = fc (-1 - x.toInt).toNat) (hg : g' = upd g n v) : cst fc x (n, g) = (n', g') := by
  show (if -8 ≤ x.toInt then (if n < 32 then (n + 1, upd g n (if 0 ≤ x.toInt then x else fc (-1 - x.toInt).toNat)) else (n, g)) else _) = _
  rw [if_pos h8, if_pos h1, if_neg (show ¬ 0 ≤ x.toInt by omega), hn, hg, hv]
theorem cst_full {fc : Nat → Int32} {x : Int32} {n n' : Nat} {g : Nat → Int32} (h8 : -8 ≤ x.toInt) (h1 : 32 ≤ n) (hn : n' = n) : cst fc x (n, g) = (n', g) := by
  show (if -8 ≤ x.toInt then (if n < 32 then (n + 1, upd g n (if 0 ≤ x.toInt then x else fc (-1 - x.toInt).toNat)) else (n, g)) else _) = _
  rw [if_pos h8, if_neg (show ¬ n < 32 by omega), hn]
theorem cst_neg {fc : Nat → Int32} {x v r : Int32} {n n' m : Nat} {g g' : Nat → Int32} (h : x.toInt = -9) (h1 : 1 ≤ n) (hn : n' = n) (hm : m = n - 1) (hr : g m = r) (hv : v = if r = 0 then 1 else 0) (hg : g' = upd g m v) : cst fc x (n, g) = (n', g') := by
  show (if -8 ≤ x.toInt then _ else if x.toInt = -9 then (if 1 ≤ n then (n, upd g (n - 1) (if g (n - 1) = 0 then 1 else 0)) else (n, g)) else _) = _
  rw [if_neg (show ¬ -8 ≤ x.toInt by omega), if_pos h, if_pos h1, hn, hg, hv, ← hr, hm]
theorem cst_neg0 {fc : Nat → Int32} {x : Int32} {n n' : Nat} {g : Nat → Int32} (h : x.toInt = -9) (h1 : n < 1) (hn : n' = n) : cst fc x (n, g) = (n', g) := by
  show (if -8 ≤ x.toInt then _ else if x.toInt = -9 then (if 1 ≤ n then (n, upd g (n - 1) (if g (n - 1) = 0 then 1 else 0)) else (n, g)) else _) = _
  rw [if_neg (show ¬ -8 ≤ x.toInt by omega), if_pos h, if_neg (show ¬ 1 ≤ n by omega), hn]
theorem cst_bin {fc : Nat → Int32} {x v : Int32} {n n' m k : Nat} {g g' : Nat → Int32} (h : x.toInt < -9) (h1 : 2 ≤ n) (hn : n' = n - 1) (hm : m = n - 2) (hk : k = n - 1) (hv : v = jn6 x.toInt (g m) (g k)) (hg : g' = upd g m v) : cst fc x (n, g) = (n', g') := by
  show (if -8 ≤ x.toInt then _ else if x.toInt = -9 then _ else if 2 ≤ n then (n - 1, upd g (n - 2) (jn6 x.toInt (g (n - 2)) (g (n - 1)))) else (n, g)) = _
  rw [if_neg (show ¬ -8 ≤ x.toInt by omega), if_neg (show ¬ x.toInt = -9 by omega), if_pos h1, hn, hg, hv, hm, hk]
theorem cst_bin0 {fc : Nat → Int32} {x : Int32} {n n' : Nat} {g : Nat → Int32} (h : x.toInt < -9) (h1 : n < 2) (hn : n' = n) : cst fc x (n, g) = (n', g) := by
  show (if -8 ≤ x.toInt then _ else if x.toInt = -9 then _ else if 2 ≤ n then (n - 1, upd g (n - 2) (jn6 x.toInt (g (n - 2)) (g (n - 1)))) else (n, g)) = _
  rw [if_neg (show ¬ -8 ≤ x.toInt by omega), if_neg (show ¬ x.toInt = -9 by omega), if_neg (show ¬ 2 ≤ n by omega), hn]
/-- one place of a row is new -/
def AD1 (f g : Nat → Int32) (n : Nat) (x : Int32) : Prop := (∀ j : Nat, ¬ j = n → g j = f j) ∧ g n = x
/-- the facts of two wares, by what is told -/
def fcC (wd dp wt : Nat → Int32) (lids : Int32) (u l : Nat) : Nat → Int32 := fun k => if k = 0 then wd u else if k = 1 then wd l else if k = 2 then dp u else if k = 3 then dp l else if k = 4 then wt u else if k = 5 then wt l else if k = 6 then (if BT lids u = true then 1 else 0) else (if BT lids l = true then 1 else 0)
theorem bt_rd32 {x k : Int32} (h0 : 0 ≤ k.toInt) (h1 : k.toInt < 32) : ((x.toUInt32 >>> (k.toUInt32 &&& Int32.toUInt32 31)).toInt32 &&& 1) = if BT x k.toInt.toNat = true then 1 else 0 := by
  apply (i_eq _ _).mpr
  rw [bt_rd h0 h1]
  by_cases b : BT x k.toInt.toNat = true
  · rw [if_pos b, if_pos b]; rfl
  · rw [if_neg b, if_neg b]; rfl
/-- the rows of the nests -/
def sC (en : Nat → Int32) (i : Nat) : Nat := if i = 0 then 0 else (en (i - 1)).toInt.toNat
def CE0 (f en : Nat → Int32) (n : Int) (E : (Nat → (Nat → Int32) → Int32)) : Prop := ∀ i : Nat, (i : Int) < n → CSeg f (sC en i) (en i).toInt.toNat 25 (E i)
theorem mayP_iff {n : Nat} {E : (Nat → (Nat → Int32) → Int32)} {fc : Nat → Int32} {wl tp : Bool} : mayP n E fc wl tp = true ↔ tp = false ∧ (n = 0 → wl = true) ∧ (∀ i, i < n → ¬ E i fc = 0) := by
  unfold mayP
  rw [Bool.and_eq_true, Bool.not_eq_true']
  constructor
  · rintro ⟨h1, h2⟩
    refine ⟨h1, fun h => ?_, fun i hi => ?_⟩
    · rw [if_pos h] at h2; exact h2
    · rw [if_neg (show ¬ n = 0 by omega)] at h2; exact (alE_iff n).mp h2 i hi
  · rintro ⟨h1, h2, h3⟩
    refine ⟨h1, ?_⟩
    by_cases q : n = 0
    · rw [if_pos q]; exact h2 q
    · rw [if_neg q]; exact (alE_iff n).mpr h3
/-- whether u MAY stand on l, by what is told; a table of that under way -/
def mayC (w n : Int) (E : (Nat → (Nat → Int32) → Int32)) (wd dp wt : Nat → Int32) (lids tops : Int32) (l u : Nat) : Bool := decide ((l : Int) < w ∧ (u : Int) < w ∧ ¬ u = l) && mayP n.toNat E (fcC wd dp wt lids u l) (decide ((wd u).toInt < (wd l).toInt)) (BT tops l)
theorem mayC_lt {w n : Int} {E : (Nat → (Nat → Int32) → Int32)} {wd dp wt : Nat → Int32} {lids tops : Int32} {l u : Nat} (h : mayC w n E wd dp wt lids tops l u = true) : (l : Int) < w ∧ (u : Int) < w := by
  unfold mayC at h
  rw [Bool.and_eq_true] at h
  have := of_decide_eq_true h.1
  exact ⟨this.1, this.2.1⟩
def MYI (f : Nat → Int32) (M : Nat → Nat → Bool) (a b : Int) : Prop := ∀ l u : Nat, l < 12 → u < 12 → BT (f l) u = (decide ((l : Int) < a ∨ ((l : Int) = a ∧ (u : Int) < b)) && M l u)
theorem MYI.zero {M : Nat → Nat → Bool} {a b : Int} (ha : a = 0) (hb : b = 0) : MYI (fun _ => 0) M a b := fun l u _ hu => by
  rw [decide_eq_false (by omega), Bool.false_and]; exact bt_z u (by omega)
theorem MYI.row {f : Nat → Int32} {M : Nat → Nat → Bool} {a b a' b' w : Int} (h : MYI f M a b) (hw : w ≤ b) (hM : ∀ l u, M l u = true → (u : Int) < w) (ha : a' = a + 1) (hb : b' = 0) : MYI f M a' b' := fun l u hl hu => by
  rw [h l u hl hu]
  by_cases m : M l u = true
  · have := hM l u m
    congr 1
    by_cases q : (l : Int) < a ∨ ((l : Int) = a ∧ (u : Int) < b)
    · rw [decide_eq_true q, decide_eq_true (by omega)]
    · rw [decide_eq_false q, decide_eq_false (by omega)]
  · rw [Bool.eq_false_iff.mpr m, Bool.and_false, Bool.and_false]
theorem MYI.skip {f : Nat → Int32} {M : Nat → Nat → Bool} {a b b' : Int} (h : MYI f M a b) (h0 : 0 ≤ a) (h1 : 0 ≤ b) (hb : b' = b + 1) (hM : M a.toNat b.toNat = false) : MYI f M a b' := fun l u hl hu => by
  rw [h l u hl hu]
  by_cases m : M l u = true
  · have n : ¬ (l = a.toNat ∧ u = b.toNat) := fun z => by rw [z.1, z.2, hM] at m; exact absurd m (by decide)
    congr 1
    by_cases q : (l : Int) < a ∨ ((l : Int) = a ∧ (u : Int) < b)
    · rw [decide_eq_true q, decide_eq_true (by omega)]
    · rw [decide_eq_false q, decide_eq_false (by omega)]
  · rw [Bool.eq_false_iff.mpr m, Bool.and_false, Bool.and_false]
theorem MYI.set {f g : Nat → Int32} {M : Nat → Nat → Bool} {a b b' : Int} {k : Int32} (h : MYI f M a b) (h0 : 0 ≤ a) (h1 : 0 ≤ b) (h2 : b < 12) (hk : k.toInt = b) (hb : b' = b + 1) (hM : M a.toNat b.toNat = true) (hg : g = upd f a.toNat (f a.toNat ||| ((1 : Int32) <<< (k &&& 31)))) : MYI g M a b' := fun l u hl hu => by
  by_cases e : l = a.toNat
  · rw [hg, e, pk_us, bt_or (by omega) (by omega) hu, hk]
    have h3 := h a.toNat u (by omega) hu
    rw [h3]
    by_cases e2 : u = b.toNat
    · rw [e2, hM, decide_eq_true (show b.toNat = b.toNat from rfl), Bool.or_true, Bool.and_true]
      exact (decide_eq_true (by omega)).symm
    · rw [decide_eq_false e2, Bool.or_false]
      congr 1
      by_cases q : ((a.toNat : Nat) : Int) < a ∨ (((a.toNat : Nat) : Int) = a ∧ (u : Int) < b)
      · rw [decide_eq_true q, decide_eq_true (by omega)]
      · rw [decide_eq_false q, decide_eq_false (by omega)]
  · rw [hg, pk_un e, h l u hl hu]
    congr 1
    by_cases q : (l : Int) < a ∨ ((l : Int) = a ∧ (u : Int) < b)
    · rw [decide_eq_true q, decide_eq_true (by omega)]
    · rw [decide_eq_false q, decide_eq_false (by omega)]
/-- what the class has found, in the end -/
def MYC (f : Nat → Int32) (M : Nat → Nat → Bool) : Prop := ∀ l u : Nat, l < 12 → u < 12 → BT (f l) u = M l u
theorem MYI.fin {f : Nat → Int32} {M : Nat → Nat → Bool} {a b w : Int} (h : MYI f M a b) (hw : w ≤ a) (hM : ∀ l u, M l u = true → (l : Int) < w) : MYC f M := fun l u hl hu => by
  rw [h l u hl hu]
  by_cases m : M l u = true
  · have := hM l u m
    rw [decide_eq_true (by omega), Bool.true_and]
  · rw [Bool.eq_false_iff.mpr m, Bool.and_false]
/-- what stands behind a nest, behind a statement, in the end -/
def updE (E : (Nat → (Nat → Int32) → Int32)) (n : Nat) (V : (Nat → Int32) → Int32) : (Nat → (Nat → Int32) → Int32) := fun i => if i = n then V else E i
def eNest (T : Nat → Int × Int64 × Nat) (S : ((Nat → Int64) × Nat × (Nat → Int64) × Nat × (Nat → Bool) × (Nat → Bool) × Nat)) (E : (Nat → (Nat → Int32) → Int32)) (p : Nat) : (Nat → (Nat → Int32) → Int32) := updE E S.2.2.2.2.2.2 (vLv T (rPt T 5) (vPt T 5) 4 (nx T p))
def eLine (T : Nat → Int × Int64 × Nat) (S : ((Nat → Int64) × Nat × (Nat → Int64) × Nat × (Nat → Bool) × (Nat → Bool) × Nat)) (E : (Nat → (Nat → Int32) → Int32)) (p : Nat) : (Nat → (Nat → Int32) → Int32) := if isW T p (WN 0) = true then E else if isW T p (WN 1) = true then E else if isW T p (WN 2) = true then E else if isW T p (WN 3) = true then E else if isW T p (WN 4) = true then E else eNest T S E p
def E0 : (Nat → (Nat → Int32) → Int32) := fun _ _ => 0
def eFin (T : Nat → Int × Int64 × Nat) : Nat → ((Nat → Int64) × Nat × (Nat → Int64) × Nat × (Nat → Bool) × (Nat → Bool) × Nat) → (Nat → (Nat → Int32) → Int32) → Nat → (Nat → (Nat → Int32) → Int32)
  | 0, _, E, _ => E
  | k + 1, S, E, p => if (T p).1 = 0 then E else if (rStm T S p).2 = 0 then eFin T k (sLine T S p) (eLine T S E p) (rStm T S p).1 else E
theorem eFin_end {T : Nat → Int × Int64 × Nat} {S : ((Nat → Int64) × Nat × (Nat → Int64) × Nat × (Nat → Bool) × (Nat → Bool) × Nat)} {E : (Nat → (Nat → Int32) → Int32)} {p : Nat} (h : (T p).1 = 0) : ∀ k, eFin T k S E p = E
  | 0 => rfl
  | _ + 1 => if_pos h
theorem eFin_ok {T : Nat → Int × Int64 × Nat} {S : ((Nat → Int64) × Nat × (Nat → Int64) × Nat × (Nat → Bool) × (Nat → Bool) × Nat)} {E : (Nat → (Nat → Int32) → Int32)} {p q : Nat} {k : Nat} (h : ¬ (T p).1 = 0) (h2 : rStm T S p = (q, 0)) : eFin T (k + 1) S E p = eFin T k (sLine T S p) (eLine T S E p) q := by
  show (if (T p).1 = 0 then E else if (rStm T S p).2 = 0 then eFin T k (sLine T S p) (eLine T S E p) (rStm T S p).1 else E) = _
  rw [if_neg h, h2]; exact if_pos rfl
def cupE (f : Nat → Int32) (n : Nat) : (Nat → (Nat → Int32) → Int32) := eFin (TKS f n) 1000 S0 E0 (tP f n 0)
theorem cupE_cong {f g : Nat → Int32} {n : Nat} (hg : ∀ j : Nat, j < n → g j = f j) : cupE g n = cupE f n := by unfold cupE; rw [TKS_cong hg, tP_cong hg]
/-- the class's nests: their rows of steps, how many, how many steps in all -/
def CE (f en : Nat → Int32) (n sz nn : Int) (E : (Nat → (Nat → Int32) → Int32)) : Prop := CE0 f en n E ∧ (∀ i : Nat, (i : Int) < n → (en i).toInt ≤ sz) ∧ (n = 0 → sz = 0) ∧ (0 < n → (en (n - 1).toNat).toInt = sz) ∧ n = nn
def CG (f g : Nat → Int32) (a b h : Nat) (V : (Nat → Int32) → Int32) : Prop := (∀ j, j < a → g j = f j) ∧ CSeg g a b h V
theorem CE.nest {f g en en' : Nat → Int32} {n sz nn n' sz' nn' : Int} {e : Int32} {S : ((Nat → Int64) × Nat × (Nat → Int64) × Nat × (Nat → Bool) × (Nat → Bool) × Nat)} {E : (Nat → (Nat → Int32) → Int32)} {T : Nat → Int × Int64 × Nat} {p : Nat} (h : CE f en n sz nn E) (h0 : 0 ≤ n) (hs : 0 ≤ sz) (hz : sz ≤ sz') (hS : nn = ((S.2.2.2.2.2.2 : Nat) : Int)) (hg : CG f g sz.toNat sz'.toNat 25 (vLv T (rPt T 5) (vPt T 5) 4 (nx T p))) (ha : AD1 en en' n.toNat e) (he : e.toInt = sz') (hn : n' = n + 1) (hnn : nn' = nn + 1) : CE g en' n' sz' nn' (eNest T S E p) := by
  obtain ⟨a, b, c, d, q⟩ := h
  obtain ⟨g1, g2⟩ := hg
  have en0 : n.toNat = S.2.2.2.2.2.2 := by omega
  have old : ∀ i : Nat, (i : Int) < n → en' i = en i := fun i hi => ha.1 i (by omega)
  refine ⟨fun i hi => ?_, fun i hi => ?_, fun z => by omega, fun _ => ?_, by omega⟩
  · show CSeg g (sC en' i) (en' i).toInt.toNat 25 (updE E S.2.2.2.2.2.2 _ i)
    unfold updE
    by_cases z : i = S.2.2.2.2.2.2
    · rw [if_pos z, z, ← en0, ha.2, he]
      have e1 : sC en' n.toNat = sz.toNat := by
        unfold sC
        by_cases z0 : n.toNat = 0
        · rw [if_pos z0]; have := c (by omega); omega
        · rw [if_neg z0, old _ (by omega)]
          have := d (by omega)
          rw [show n.toNat - 1 = (n - 1).toNat by omega, this]
      rw [e1]; exact g2
    · rw [if_neg z]
      have hi2 : (i : Int) < n := by omega
      have e1 : sC en' i = sC en i := by
        unfold sC
        by_cases z0 : i = 0
        · rw [if_pos z0, if_pos z0]
        · rw [if_neg z0, if_neg z0, old _ (by omega)]
      rw [e1, old i hi2]
      exact (a i hi2).frame (fun j hj => g1 j (by have := b i hi2; omega))
  · by_cases z : (i : Int) < n
    · rw [old i z]; have := b i z; omega
    · rw [show i = n.toNat by omega, ha.2]; omega
  · rw [show (n' - 1).toNat = n.toNat by omega, ha.2]; exact he
theorem CE.zero {f en : Nat → Int32} {n sz nn : Int} (hn : n = 0) (hs : sz = 0) (hnn : nn = 0) : CE f en n sz nn E0 := ⟨fun i hi => absurd hi (by omega), fun i hi => absurd hi (by omega), fun _ => hs, fun h => absurd h (by omega), by omega⟩

theorem CG.cast {f g : Nat → Int32} {a b b' h k : Nat} {V W : (Nat → Int32) → Int32} (s : CG f g a b h V) (hk : h ≤ k) (e : b = b') (e2 : W = V) : CG f g a b' k W := by subst e; subst e2; exact ⟨s.1, s.2.mono hk⟩
theorem CG.num {f g : Nat → Int32} {a b h : Nat} {x : Int32} {W : (Nat → Int32) → Int32} (s : AD1 f g a x) (hx : 0 ≤ x.toInt) (h1 : 1 ≤ h) (e : a + 1 = b) (e2 : W = fun _ => x) : CG f g a b h W := by subst e; subst e2; exact ⟨fun j hj => s.1 j (by omega), (CSeg.num s.2 hx).mono h1⟩
theorem CG.fct {f g : Nat → Int32} {a b h k : Nat} {x : Int32} {W : (Nat → Int32) → Int32} (s : AD1 f g a x) (hx : x.toInt = -1 - (k : Int)) (hk : k < 8) (h1 : 1 ≤ h) (e : a + 1 = b) (e2 : W = fun fc => fc k) : CG f g a b h W := by subst e; subst e2; exact ⟨fun j hj => s.1 j (by omega), (CSeg.fct (by rw [s.2]; exact hx) hk).mono h1⟩
theorem CG.neg {f g g' : Nat → Int32} {a b c h k : Nat} {x : Int32} {V W : (Nat → Int32) → Int32} (s : CG f g a b h V) (ha : AD1 g g' b x) (hx : x.toInt = -9) (hk : h ≤ k) (e : b + 1 = c) (e2 : W = fun fc => if V fc = 0 then 1 else 0) : CG f g' a c k W := by
  subst e; subst e2
  have g1 := s.2.1
  exact ⟨fun j hj => (ha.1 j (by omega)).trans (s.1 j hj), ((s.2.frame (fun j hj => ha.1 j (by omega))).neg (by rw [ha.2]; exact hx)).mono hk⟩
theorem vPt_open {T : Nat → Int × Int64 × Nat} {d p : Nat} (h : isG T p 40 = true) : vPt T (d + 1) p = vLv T (rPt T d) (vPt T d) 4 (nx T p) := funext fun fc => by
  show (if isG T p 40 = true then _ else _) = _
  rw [if_pos h]
theorem vPt_not {T : Nat → Int × Int64 × Nat} {d p : Nat} (h : ¬ isG T p 40 = true) (h2 : isW T p (WN 14) = true) : vPt T (d + 1) p = fun fc => if vPt T d (nx T p) fc = 0 then 1 else 0 := funext fun fc => by
  show (if isG T p 40 = true then _ else if isW T p (WN 14) = true then _ else _) = _
  rw [if_neg h, if_pos h2]
theorem vPt_num {T : Nat → Int × Int64 × Nat} {d p : Nat} (h : ¬ isG T p 40 = true) (h2 : ¬ isW T p (WN 14) = true) (h3 : (T p).1 = 2) : vPt T (d + 1) p = fun _ => (T p).2.1.toInt32 := funext fun fc => by
  show (if isG T p 40 = true then _ else if isW T p (WN 14) = true then _ else if (T p).1 = 2 then _ else _) = _
  rw [if_neg h, if_neg h2, if_pos h3]
theorem vPt_fct {T : Nat → Int × Int64 × Nat} {d p : Nat} (h : ¬ isG T p 40 = true) (h2 : ¬ isW T p (WN 14) = true) (h3 : ¬ (T p).1 = 2) : vPt T (d + 1) p = fun fc => fc (fci T p) := funext fun fc => by
  show (if isG T p 40 = true then _ else if isW T p (WN 14) = true then _ else if (T p).1 = 2 then _ else _) = _
  rw [if_neg h, if_neg h2, if_neg h3]
theorem l2i_of {x : Int64} {n : Int32} (h : x.toInt = n.toInt) : x.toInt32 = n := by
  apply (i_eq _ _).mpr
  have b := i_bd n
  rw [Int64.toInt_toInt32, h]; exact fb_bmod (by omega) (by omega)
theorem jcd0 {T : Nat → Int × Int64 × Nat} {p : Nat} : jcd T 0 p = if isW T p (WN 15) = true then -10 else -11 := rfl
theorem jcd1 {T : Nat → Int × Int64 × Nat} {p : Nat} : jcd T 1 p = if isG T p 60 = true then -12 else -13 := rfl
theorem jcd2 {T : Nat → Int × Int64 × Nat} {p : Nat} : jcd T 2 p = if isG T p 43 = true then -14 else -15 := rfl
theorem jcd3 {T : Nat → Int × Int64 × Nat} {p : Nat} : jcd T 3 p = -16 := rfl
/-- a chain of the class under way -/
def CHV (T : Nat → Int × Int64 × Nat) (f g : Nat → Int32) (a b h : Nat) (sub : Nat → Nat × Int) (vs : Nat → (Nat → Int32) → Int32) (jn : Nat → Bool) (cj : Nat → Int) (k pl : Nat) (R : (Nat → Int32) → Int32) : Prop := ∃ A : (Nat → Int32) → Int32, CG f g a b h A ∧ CV T sub vs jn cj k pl R A
theorem CHV.start {T : Nat → Int × Int64 × Nat} {f g : Nat → Int32} {a b h : Nat} {P : Nat → Nat × Int} {V : Nat → (Nat → Int32) → Int32} {k p pl : Nat} (s : CG f g a b h (vLv T P V k p)) (e : rLv T P k p = (pl, 0)) : CHV T f g a b (h + 1) (rLv T P k) (vLv T P V k) (jnt T (3 - k)) (jcd T (3 - k)) (mst (3 - k)) pl (vLv T P V (k + 1) p) := ⟨vLv T P V k p, s.cast (by omega) rfl rfl, CV.start e⟩
theorem CHV.step {T : Nat → Int × Int64 × Nat} {f g g' g'' : Nat → Int32} {a b c b' h : Nat} {sub : Nat → Nat × Int} {vs : Nat → (Nat → Int32) → Int32} {jn : Nat → Bool} {cj : Nat → Int} {k pl q pl' : Nat} {R : (Nat → Int32) → Int32} {x : Int32} (s : CHV T f g a b (h + 1) sub vs jn cj (k + 1) pl R) (hj : jn pl = true) (hq : q = nx T pl) (hs : sub q = (pl', 0)) (hg : CG g g' b c h (vs q)) (ha : AD1 g' g'' c x) (hx : x.toInt = cj pl) (hl : cj pl < -9) (hb : c + 1 = b') : CHV T f g'' a b' (h + 1) sub vs jn cj k pl' R := by
  subst hb
  obtain ⟨A, s1, s2⟩ := s
  have g1 := s1.2.1
  have g2 := hg.2.1
  refine ⟨fun fc => jn6 (cj pl) (A fc) (vs q fc), ⟨fun j hj2 => ?_, ?_⟩, s2.step hj hq hs⟩
  · exact (ha.1 j (by omega)).trans ((hg.1 j (by omega)).trans (s1.1 j hj2))
  · exact CSeg.bin (s1.2.frame (fun j hj2 => (ha.1 j (by omega)).trans (hg.1 j hj2))) (hg.2.frame (fun j hj2 => ha.1 j (by omega))) (by rw [ha.2]; exact hx) hl (by omega)
theorem CHV.stop {T : Nat → Int × Int64 × Nat} {f g : Nat → Int32} {a b h : Nat} {sub : Nat → Nat × Int} {vs : Nat → (Nat → Int32) → Int32} {jn : Nat → Bool} {cj : Nat → Int} {k pl : Nat} {R : (Nat → Int32) → Int32} (s : CHV T f g a b h sub vs jn cj k pl R) (hj : k = 0 ∨ ¬ jn pl = true) : CG f g a b h R := by
  obtain ⟨A, s1, s2⟩ := s
  rw [← s2.stop hj]; exact s1

theorem mayC_iff {w n : Int} {E : (Nat → (Nat → Int32) → Int32)} {wd dp wt : Nat → Int32} {lids tops : Int32} {l u : Nat} : mayC w n E wd dp wt lids tops l u = true ↔ ((l : Int) < w ∧ (u : Int) < w ∧ ¬ u = l) ∧ mayP n.toNat E (fcC wd dp wt lids u l) (decide ((wd u).toInt < (wd l).toInt)) (BT tops l) = true := by
  unfold mayC
  rw [Bool.and_eq_true]
  exact ⟨fun h => ⟨of_decide_eq_true h.1, h.2⟩, fun h => ⟨decide_eq_true h.1, h.2⟩⟩

theorem fci_of {T : Nat → Int × Int64 × Nat} {p k : Nat} (hk : k < 8) (h : wI T p (WN ([17, 18, 19, 7, 20, 21, 1, 22].getD k 0)) = 1) : fci T p = k := by
  have u : ∀ {j m : Nat}, wI T p (WN j) = 1 → ¬ WN j = WN m → ¬ isW T p (WN m) = true := fun h1 h2 h3 => h2 ((of_decide_eq_true (wI_1.mp h1)).2.symm.trans (of_decide_eq_true h3).2)
  have h3 : k = 0 ∨ k = 1 ∨ k = 2 ∨ k = 3 ∨ k = 4 ∨ k = 5 ∨ k = 6 ∨ k = 7 := by omega
  unfold fci
  rcases h3 with rfl | rfl | rfl | rfl | rfl | rfl | rfl | rfl
  · have h' : wI T p (WN 17) = 1 := h
    rw [if_pos (wI_1.mp h')]
  · have h' : wI T p (WN 18) = 1 := h
    rw [if_neg (u h' (by decide)), if_pos (wI_1.mp h')]
  · have h' : wI T p (WN 19) = 1 := h
    rw [if_neg (u h' (by decide)), if_neg (u h' (by decide)), if_pos (wI_1.mp h')]
  · have h' : wI T p (WN 7) = 1 := h
    rw [if_neg (u h' (by decide)), if_neg (u h' (by decide)), if_neg (u h' (by decide)), if_pos (wI_1.mp h')]
  · have h' : wI T p (WN 20) = 1 := h
    rw [if_neg (u h' (by decide)), if_neg (u h' (by decide)), if_neg (u h' (by decide)), if_neg (u h' (by decide)), if_pos (wI_1.mp h')]
  · have h' : wI T p (WN 21) = 1 := h
    rw [if_neg (u h' (by decide)), if_neg (u h' (by decide)), if_neg (u h' (by decide)), if_neg (u h' (by decide)), if_neg (u h' (by decide)), if_pos (wI_1.mp h')]
  · have h' : wI T p (WN 1) = 1 := h
    rw [if_neg (u h' (by decide)), if_neg (u h' (by decide)), if_neg (u h' (by decide)), if_neg (u h' (by decide)), if_neg (u h' (by decide)), if_neg (u h' (by decide)), if_pos (wI_1.mp h')]
  · have h' : wI T p (WN 22) = 1 := h
    rw [if_neg (u h' (by decide)), if_neg (u h' (by decide)), if_neg (u h' (by decide)), if_neg (u h' (by decide)), if_neg (u h' (by decide)), if_neg (u h' (by decide)), if_neg (u h' (by decide))]
/-- a worth sees the eight facts alone -/
def EX8 (V : (Nat → Int32) → Int32) : Prop := ∀ f g : Nat → Int32, (∀ k, k < 8 → f k = g k) → V f = V g
theorem chV_ext {sub : Nat → Nat × Int} {vs vs' : Nat → Int32} {nxt : Nat → Nat} {jn : Nat → Bool} {cj : Nat → Int} (h : ∀ q, vs q = vs' q) : ∀ (k : Nat) (r : Nat × Int) (a : Int32), chV sub vs nxt jn cj k r a = chV sub vs' nxt jn cj k r a := by
  have e : vs = vs' := funext h
  intro k r a
  rw [e]
theorem vLv_ext {T : Nat → Int × Int64 × Nat} {P : Nat → Nat × Int} {V : Nat → (Nat → Int32) → Int32} (h : ∀ q, EX8 (V q)) : ∀ k p, EX8 (vLv T P V k p) := by
  intro k
  induction k with
  | zero => exact h
  | succ k ih =>
    intro p f g hfg
    show chV (rLv T P k) (fun q => vLv T P V k q f) (nx T) (jnt T (3 - k)) (jcd T (3 - k)) (mst (3 - k)) (rLv T P k p) (vLv T P V k p f) = chV (rLv T P k) (fun q => vLv T P V k q g) (nx T) (jnt T (3 - k)) (jcd T (3 - k)) (mst (3 - k)) (rLv T P k p) (vLv T P V k p g)
    rw [ih p f g hfg]
    exact chV_ext (fun q => ih q f g hfg) _ _ _
theorem vPt_ext {T : Nat → Int × Int64 × Nat} : ∀ d p, EX8 (vPt T d p) := by
  intro d
  induction d with
  | zero => intro p f g _; rfl
  | succ d ih =>
    intro p f g hfg
    show (if isG T p 40 = true then vLv T (rPt T d) (vPt T d) 4 (nx T p) f else if isW T p (WN 14) = true then (if vPt T d (nx T p) f = 0 then 1 else 0) else if (T p).1 = 2 then (T p).2.1.toInt32 else f (fci T p)) = (if isG T p 40 = true then vLv T (rPt T d) (vPt T d) 4 (nx T p) g else if isW T p (WN 14) = true then (if vPt T d (nx T p) g = 0 then 1 else 0) else if (T p).1 = 2 then (T p).2.1.toInt32 else g (fci T p))
    rw [vLv_ext ih 4 (nx T p) f g hfg, ih (nx T p) f g hfg, hfg _ (fci_lt T p)]
/-- a chain of the reference under way -/
def RV (T : Nat → Int × Int64 × Nat) (o a : Nat → Int32) (i j : Nat) (sub : Nat → Nat × Int) (vs : Nat → (Nat → Int32) → Int32) (jn : Nat → Bool) (cj : Nat → Int) (p : Nat) (R : (Nat → Int32) → Int32) : Prop := ∃ A : (Nat → Int32) → Int32, MSeg o a i j A ∧ ∃ k, 1000 ≤ k + p ∧ CV T sub vs jn cj k p R A
theorem RV.start {T : Nat → Int × Int64 × Nat} {o a : Nat → Int32} {i j : Nat} {P : Nat → Nat × Int} {V : Nat → (Nat → Int32) → Int32} {k p pl : Nat} (s : MSeg o a i j (vLv T P V k p)) (e : rLv T P k p = (pl, 0)) (hm : mst (3 - k) = 1000) : RV T o a i j (rLv T P k) (vLv T P V k) (jnt T (3 - k)) (jcd T (3 - k)) pl (vLv T P V (k + 1) p) := by
  have c := CV.start (V := V) e
  rw [hm] at c
  exact ⟨vLv T P V k p, s, 1000, by omega, c⟩
theorem RV.step {T : Nat → Int × Int64 × Nat} {o a o1 a1 o2 a2 : Nat → Int32} {i j k k' : Nat} {sub : Nat → Nat × Int} {vs : Nat → (Nat → Int32) → Int32} {jn : Nat → Bool} {cj : Nat → Int} {p q p' : Nat} {R : (Nat → Int32) → Int32} {c : Int32} (hs : ∀ q, (sub q).2 = 0 → q < (sub q).1) (hp : p < 1000 ∧ p < nx T p) (s : RV T o a i j sub vs jn cj p R) (hj : jn p = true) (hq : q = nx T p) (e : sub q = (p', 0)) (f1 : ∀ t, t < j → o1 t = o t) (f2 : ∀ t, t < j → a1 t = a t) (m : MSeg o1 a1 j k (vs q)) (g1 : ∀ t, t < k → o2 t = o1 t) (g2 : ∀ t, t < k → a2 t = a1 t) (hc : o2 k = c) (h4 : 4 ≤ c.toInt) (hx : ∀ u v, bth c u v = jn6 (cj p) u v) (hk : k + 1 = k') : RV T o2 a2 i k' sub vs jn cj p' R := by
  subst hk
  obtain ⟨A, s1, n, n1, n2⟩ := s
  obtain ⟨x, rfl⟩ : ∃ x, n = x + 1 := ⟨n - 1, by omega⟩
  have y := hs q (by rw [e])
  rw [e] at y
  have y2 : q < p' := y
  have m1 := m.1
  refine ⟨_, MSeg.bin ((s1.frame f1 f2).frame (fun t ht => g1 t (by omega)) (fun t ht => g2 t (by omega))) (m.frame g1 g2) hc h4 hx, x, by omega, n2.step hj hq e⟩
theorem RV.stop {T : Nat → Int × Int64 × Nat} {o a : Nat → Int32} {i j : Nat} {sub : Nat → Nat × Int} {vs : Nat → (Nat → Int32) → Int32} {jn : Nat → Bool} {cj : Nat → Int} {p : Nat} {R : (Nat → Int32) → Int32} (s : RV T o a i j sub vs jn cj p R) (hj : ¬ jn p = true) : MSeg o a i j R := by
  obtain ⟨A, s1, n, n1, n2⟩ := s
  rw [← n2.stop (Or.inr hj)]; exact s1
/-- the nests told in the half that is being read; the nests told -/
def NE6 (t o a : Nat → Int32) (c : Int) (E : (Nat → (Nat → Int32) → Int32)) : Prop := ∀ k : Nat, (k : Int) < (t 122).toInt → EX8 (E k) ∧ ∃ e : Nat, MSeg o a (1100 + (t (231 + k)).toInt).toNat e (E k) ∧ o e = 0 ∧ (e : Int) < 1100 + c
def ME6 (t o a : Nat → Int32) (E : (Nat → (Nat → Int32) → Int32)) : Prop := ∀ k : Nat, (k : Int) < (t 2).toInt → EX8 (E k) ∧ ∃ e : Nat, MSeg o a (t (111 + k)).toInt.toNat e (E k) ∧ o e = 0
theorem NE6.frame {t o a t' o' a' : Nat → Int32} {c c' : Int} {E : (Nat → (Nat → Int32) → Int32)} (h : NE6 t o a c E) (ht : ∀ j, (j < 120 ∨ j = 122 ∨ 231 ≤ j) → t' j = t j) (hc : c ≤ c') (ho : ∀ j, j < (1100 + c).toNat → o' j = o j) (ha : ∀ j, j < (1100 + c).toNat → a' j = a j) : NE6 t' o' a' c' E := fun k hk => by
  rw [ht 122 (Or.inr (Or.inl rfl))] at hk
  obtain ⟨x, e, h1, h2, h3⟩ := h k hk
  refine ⟨x, e, ?_, ?_, by omega⟩
  · rw [ht (231 + k) (Or.inr (Or.inr (by omega)))]
    exact h1.frame (fun j hj => ho j (by omega)) (fun j hj => ha j (by omega))
  · rw [ho e (by omega)]; exact h2
theorem NE6.more {T : Nat → Int × Int64 × Nat} {S : ((Nat → Int64) × Nat × (Nat → Int64) × Nat × (Nat → Bool) × (Nat → Bool) × Nat)} {p : Nat} {t o a t' o' a' : Nat → Int32} {c c' : Int} {e : Nat} {E : (Nat → (Nat → Int32) → Int32)} (h : NE6 t o a c E) (hS : (t 122).toInt = ((S.2.2.2.2.2.2 : Nat) : Int)) (hn : (t' 122).toInt = (t 122).toInt + 1) (ht : ∀ k : Nat, (k : Int) < (t 122).toInt → t' (231 + k) = t (231 + k)) (hs : MSeg o' a' (1100 + (t' (231 + (t 122).toInt.toNat)).toInt).toNat e (vLv T (rPt T 5) (vPt T 5) 4 (nx T p))) (h0 : o' e = 0) (he : (e : Int) < 1100 + c') (hc : c ≤ c') (ho : ∀ j, j < (1100 + c).toNat → o' j = o j) (ha : ∀ j, j < (1100 + c).toNat → a' j = a j) : NE6 t' o' a' c' (eNest T S E p) := fun k hk => by
  rw [hn] at hk
  by_cases z : k = S.2.2.2.2.2.2
  · have e1 : eNest T S E p k = vLv T (rPt T 5) (vPt T 5) 4 (nx T p) := if_pos z
    rw [e1, show k = (t 122).toInt.toNat by omega]
    exact ⟨vLv_ext (fun q => vPt_ext 5 q) 4 (nx T p), e, hs, h0, he⟩
  · have e1 : eNest T S E p k = E k := if_neg z
    have q : (k : Int) < (t 122).toInt := by omega
    rw [e1]
    obtain ⟨x, e, h1, h2, h3⟩ := h k q
    refine ⟨x, e, ?_, ?_, by omega⟩
    · rw [ht k q]; exact h1.frame (fun j hj => ho j (by omega)) (fun j hj => ha j (by omega))
    · rw [ho e (by omega)]; exact h2
theorem ME6.of {t o a t' o' a' : Nat → Int32} {c : Int} {E : (Nat → (Nat → Int32) → Int32)} (h : NE6 t o a c E) (hc : c ≤ 1000) (h4 : (t 122).toInt ≤ 4) (hp : ∀ k : Nat, k < 4 → 0 ≤ (t (231 + k)).toInt) (ht : ∀ j : Nat, j < 120 → t' j = t (120 + j)) (ho : ∀ j : Nat, j < 1100 → o' j = o (1100 + j)) (ha : ∀ j : Nat, j < 1100 → a' j = a (1100 + j)) : ME6 t' o' a' E := fun k hk => by
  rw [ht 2 (by decide)] at hk
  have hk' : (k : Int) < (t 122).toInt := hk
  obtain ⟨x, e, h1, h2, h3⟩ := h k hk'
  have g := h1.1
  have p0 := hp k (by omega)
  refine ⟨x, e - 1100, ?_, ?_⟩
  · rw [ht (111 + k) (by omega), show 120 + (111 + k) = 231 + k by omega]
    refine MSeg.shift (o := o) (a := a) (d := 1100) ?_ (fun y y1 y2 => ?_) (fun y y1 y2 => ?_)
    · rw [show (t (231 + k)).toInt.toNat + 1100 = (1100 + (t (231 + k)).toInt).toNat by omega, show e - 1100 + 1100 = e by omega]; exact h1
    · rw [ho y (by omega), Nat.add_comm]
    · rw [ha y (by omega), Nat.add_comm]
  · rw [ho (e - 1100) (by omega), show 1100 + (e - 1100) = e by omega]; exact h2
theorem ME6.fr {t o a t' o' a' : Nat → Int32} {E : (Nat → (Nat → Int32) → Int32)} (h : ME6 t o a E) (hb : ∀ k : Nat, (k : Int) < (t 2).toInt → ∃ e : Nat, o e = 0 ∧ e < 1100 ∧ (t (111 + k)).toInt.toNat ≤ e) (h4 : (t 2).toInt ≤ 4) (ht : ∀ j : Nat, j < 120 → t' j = t j) (ho : ∀ j : Nat, j < 1100 → o' j = o j) (ha : ∀ j : Nat, j < 1100 → a' j = a j) : ME6 t' o' a' E := fun k hk => by
  rw [ht 2 (by decide)] at hk
  obtain ⟨x, e, h1, h2⟩ := h k hk
  obtain ⟨e', b1, b2, b3⟩ := hb k hk
  have l : e ≤ e' := by
    rcases Nat.lt_or_ge e' e with q | q
    · exact absurd b1 (h1.2.1 e' b3 q)
    · exact q
  refine ⟨x, e, ?_, ?_⟩
  · rw [ht (111 + k) (by omega)]
    exact h1.frame (fun j hj => ho j (by omega)) (fun j hj => ha j (by omega))
  · rw [ho e (by omega)]; exact h2
/-- the facts of two wares, by the reference's rows; whether one MAY stand on another -/
def fcM (t : Nat → Int32) (u l : Nat) : Nat → Int32 := fun k => if k = 0 then t (3 + 8 * u) else if k = 1 then t (3 + 8 * l) else if k = 2 then t (3 + 8 * u + 1) else if k = 3 then t (3 + 8 * l + 1) else if k = 4 then t (3 + 8 * u + 2) else if k = 5 then t (3 + 8 * l + 2) else if k = 6 then t (3 + 8 * u + 6) else t (3 + 8 * l + 6)
def mayM (t : Nat → Int32) (E : (Nat → (Nat → Int32) → Int32)) (u l : Nat) : Bool := mayP (t 2).toInt.toNat E (fcM t u l) (decide ((t (3 + 8 * u)).toInt < (t (3 + 8 * l)).toInt)) (decide ((t (3 + 8 * l + 7)).toInt = 1))

theorem mrun_snoc {fs o a : Nat → Int32} {k i : Nat} {z y : Nat × (Nat → Int32)} {c x : Int32} (h : mrun fs o a k i z = y) (hc : o (i + k) = c) (hx : a (i + k) = x) : mrun fs o a (k + 1) i z = mcs fs c x y := by rw [mrun_add, h, ← hc, ← hx]; rfl
theorem mcs_num {fs : Nat → Int32} {c x : Int32} {n n' : Nat} {g g' : Nat → Int32} (hc : c = 1) (hn : n' = n + 1) (hg : g' = upd g n x) : mcs fs c x (n, g) = (n', g') := by
  unfold mcs; rw [if_pos hc, hn, hg]
theorem mcs_fct {fs : Nat → Int32} {c x v : Int32} {n n' : Nat} {g g' : Nat → Int32} (hc : c = 2) (hn : n' = n + 1) (hv : fs x.toInt.toNat = v) (hg : g' = upd g n v) : mcs fs c x (n, g) = (n', g') := by
  unfold mcs; rw [if_neg (by rw [hc]; decide), if_pos hc, hn, hg, ← hv]
theorem mcs_neg {fs : Nat → Int32} {c x v r : Int32} {n n' m : Nat} {g g' : Nat → Int32} (hc : c = 3) (hn : n' = n) (hm : m = n - 1) (hr : g m = r) (hv : v = if r = 0 then 1 else 0) (hg : g' = upd g m v) : mcs fs c x (n, g) = (n', g') := by
  unfold mcs; rw [if_neg (by rw [hc]; decide), if_neg (by rw [hc]; decide), if_pos hc, hn, hg, hv, ← hr, hm]
theorem mcs_bin {fs : Nat → Int32} {c x v : Int32} {n n' m k : Nat} {g g' : Nat → Int32} (h1 : ¬ c = 1) (h2 : ¬ c = 2) (h3 : ¬ c = 3) (hn : n' = n - 1) (hm : m = n - 2) (hk : k = n - 1) (hv : v = bth c (g m) (g k)) (hg : g' = upd g m v) : mcs fs c x (n, g) = (n', g') := by
  unfold mcs; rw [if_neg h1, if_neg h2, if_neg h3, hn, hg, hv, hm, hk]
/-- the search through the nests, under way -/
def MYL (n : Nat) (E : (Nat → (Nat → Int32) → Int32)) (fc : Nat → Int32) (wl : Bool) (k r : Int) : Prop := (r = 1 → (n = 0 → wl = true) ∧ ∀ i : Nat, (i : Int) < k → ¬ E i fc = 0) ∧ (r = 0 → ¬ ((n = 0 → wl = true) ∧ ∀ i : Nat, i < n → ¬ E i fc = 0))
theorem MYL.fin {n : Nat} {E : (Nat → (Nat → Int32) → Int32)} {fc : Nat → Int32} {wl tp : Bool} {k r : Int} (h : MYL n E fc wl k r) (hk : (n : Int) ≤ k) (hr : r = 0 ∨ r = 1) (ht : tp = false) : r = if mayP n E fc wl tp = true then 1 else 0 := by
  rcases hr with q | q
  · rw [if_neg (fun z => h.2 q ⟨(mayP_iff.mp z).2.1, (mayP_iff.mp z).2.2⟩)]; exact q
  · rw [if_pos (mayP_iff.mpr ⟨ht, (h.1 q).1, fun i hi => (h.1 q).2 i (by omega)⟩)]; exact q
/-- what the class has found and what the reference finds -/
def MYR (w nn : Int) (wd dp wt : Nat → Int32) (lids tops : Int32) (my t o a : Nat → Int32) : Prop := ∃ E : (Nat → (Nat → Int32) → Int32), MYC my (mayC w nn E wd dp wt lids tops) ∧ ME6 t o a E ∧ nn = (t 2).toInt

/-- what may() answers: the reference, the class -/
def maR (t : Nat → Int32) (E : (Nat → (Nat → Int32) → Int32)) (a b : Int) : Int := if 0 ≤ a ∧ a < (t 0).toInt ∧ 0 ≤ b ∧ b < (t 0).toInt ∧ ¬ a = b then (if mayM t E a.toNat b.toNat = true then 1 else 0) else -1
def maC (w : Int) (my : Nat → Int32) (a b : Int) : Int := if 0 ≤ a ∧ a < w ∧ 0 ≤ b ∧ b < w ∧ ¬ a = b then (if BT (my b.toNat) a.toNat = true then 1 else 0) else -1
