
theorem RP.ok {pl : Nat → Int32} {fa a fa1 a1 : Int} {g : Nat → Nat × Int} (h : RP pl fa a fa1 a1 g) (h0 : fa = 0) (h1 : fa1 = 0) : g (pl a.toNat).toInt.toNat = ((pl a1.toNat).toInt.toNat, 0) := by
  obtain ⟨x, y⟩ := h.1 h0
  have y' := y h1
  have e2 : (pl a1.toNat).toInt.toNat = (g (pl a.toNat).toInt.toNat).1 := by omega
  rw [e2]; exact Prod.ext rfl (x.symm.trans h1)
theorem rWrd_ok {T : Nat → Int × Int64 × Nat} {k p q : Nat} (h : rWrd T k p = (q, 0)) : q = nx T p := by
  unfold rWrd at h
  by_cases q1 : isW T p (WN k) = true
  · rw [if_pos q1] at h; exact (congrArg Prod.fst h).symm
  · rw [if_neg q1] at h; exact absurd (congrArg Prod.snd h) (flt_ne (by decide))
theorem l2i_eq {x : Int64} {lo hi : Int32} (h1 : lo.toInt ≤ x.toInt) (h2 : x.toInt ≤ hi.toInt) : x.toInt32.toInt = x.toInt := by
  have b1 := i_bd lo; have b2 := i_bd hi
  rw [Int64.toInt_toInt32]; exact fb_bmod (by omega) (by omega)
/-- the reference's rows hold the numbers told -/
def MW (t : Nat → Int32) (N : ((Nat → Nat → Int) × (Nat → Bool) × (Nat → Nat → Int))) : Prop := (∀ j : Nat, (j : Int) < (t 120).toInt → ∀ k, k < 5 → (t (123 + 8 * j + k)).toInt = N.1 j k) ∧ (∀ j, j < 12 → (t (128 + 8 * j)).toInt = N.1 j 5) ∧ (∀ j, j < 12 → (t (129 + 8 * j)).toInt = if N.2.1 j = true then 1 else 0) ∧ (∀ j : Nat, (j : Int) < (t 121).toInt → ∀ k, k < 3 → (t (219 + 3 * j + k)).toInt = N.2.2 j k) ∧ (∀ j : Nat, (t 120).toInt ≤ (j : Int) → N.2.1 j = false) ∧ (∀ j, j < 12 → 0 ≤ (t (130 + 8 * j)).toInt ∧ (t (130 + 8 * j)).toInt ≤ 1)
theorem row5_k {a b c d e h : Int} {k : Nat} (hk : k < 5) {x : Nat → Int} (h0 : x 0 = a) (h1 : x 1 = b) (h2 : x 2 = c) (h3 : x 3 = d) (h4 : x 4 = e) : x k = row5 a b c d e h k := by
  have h5 : k = 0 ∨ k = 1 ∨ k = 2 ∨ k = 3 ∨ k = 4 := by omega
  rcases h5 with rfl | rfl | rfl | rfl | rfl
  · exact h0
  · exact h1
  · exact h2
  · exact h3
  · exact h4
theorem MW.row {t t' : Nat → Int32} {N : ((Nat → Nat → Int) × (Nat → Bool) × (Nat → Nat → Int))} {n : Nat} {a b c d e : Int} {L : Nat → Bool} (h : MW t N) (hn : (t 120).toInt = (n : Int)) (h12 : n < 12) (h1 : (t' 120).toInt = (t 120).toInt + 1) (h2 : t' 121 = t 121) (hf : ∀ j, 121 ≤ j → (j < 123 + 8 * n ∨ 130 + 8 * n ≤ j ∨ j = 128 + 8 * n) → t' j = t j) (v0 : (t' (123 + 8 * n)).toInt = a) (v1 : (t' (123 + 8 * n + 1)).toInt = b) (v2 : (t' (123 + 8 * n + 2)).toInt = c) (v3 : (t' (123 + 8 * n + 3)).toInt = d) (v4 : (t' (123 + 8 * n + 4)).toInt = e) (vl : (t' (129 + 8 * n)).toInt = if L n = true then 1 else 0) (hL : ∀ j, ¬ j = n → L j = N.2.1 j) : MW t' (rowU N.1 n (row5 a b c d e (N.1 n 5)), L, N.2.2) := by
  obtain ⟨x1, x2, x3, x4, x5, x6⟩ := h
  refine ⟨fun j hj k hk => ?_, fun j hj => ?_, fun j hj => ?_, fun j hj k hk => ?_, fun j hj => ?_, fun j hj => ?_⟩
  · show _ = rowU N.1 n _ j k
    by_cases q : j = n
    · rw [q, rowU_s]
      exact row5_k (x := fun k => (t' (123 + 8 * n + k)).toInt) hk v0 v1 v2 v3 v4
    · rw [rowU_n q, hf (123 + 8 * j + k) (by omega) (by omega)]; exact x1 j (by omega) k hk
  · show _ = rowU N.1 n _ j 5
    by_cases q : j = n
    · rw [q, rowU_s, hf (128 + 8 * n) (by omega) (by omega)]; exact x2 n h12
    · rw [rowU_n q, hf (128 + 8 * j) (by omega) (by omega)]; exact x2 j hj
  · show _ = if L j = true then 1 else 0
    by_cases q : j = n
    · rw [q]; exact vl
    · rw [hf (129 + 8 * j) (by omega) (by omega), hL j q]; exact x3 j hj
  · have hj2 : (j : Int) < (t 121).toInt := by rw [← h2]; exact hj
    rw [hf (219 + 3 * j + k) (by omega) (by omega)]; exact x4 j hj2 k hk
  · show L j = false
    rw [hL j (by omega)]; exact x5 j (by omega)
  · rw [hf (130 + 8 * j) (by omega) (by omega)]; exact x6 j hj
theorem MW.bowl {T : Nat → Int × Int64 × Nat} {t t' : Nat → Int32} {S : ((Nat → Int64) × Nat × (Nat → Int64) × Nat × (Nat → Bool) × (Nat → Bool) × Nat)} {N : ((Nat → Nat → Int) × (Nat → Bool) × (Nat → Nat → Int))} {p n : Nat} (h : MW t N) (hn : (t 120).toInt = (n : Int)) (hS : (t 120).toInt = ((S.2.1 : Nat) : Int)) (h12 : n < 12) (h1 : (t' 120).toInt = (t 120).toInt + 1) (h2 : t' 121 = t 121) (hf : ∀ j, 121 ≤ j → (j < 123 + 8 * n ∨ 130 + 8 * n ≤ j ∨ j = 128 + 8 * n) → t' j = t j) (v0 : (t' (123 + 8 * n)).toInt = nb T (nx T (nx T (nx T p)))) (v1 : (t' (123 + 8 * n + 1)).toInt = nb T (nx T (nx T (nx T (nx T (nx T p)))))) (v2 : (t' (123 + 8 * n + 2)).toInt = nb T (nx T (nx T (nx T (nx T (nx T (nx T (nx T p)))))))) (v3 : (t' (123 + 8 * n + 3)).toInt = nb T (nx T (nx T (nx T (nx T (nx T (nx T (nx T (nx T (nx T p)))))))))) (v4 : (t' (123 + 8 * n + 4)).toInt = nb T (nx T (nx T (nx T (nx T (nx T (nx T (nx T (nx T (nx T (nx T (nx T p)))))))))))) (vl : (t' (129 + 8 * n)).toInt = 0) : MW t' (nBowl T S N p) := by
  have en : n = S.2.1 := by omega
  have e : nBowl T S N p = (rowU N.1 n (row5 (nb T (nx T (nx T (nx T p)))) (nb T (nx T (nx T (nx T (nx T (nx T p)))))) (nb T (nx T (nx T (nx T (nx T (nx T (nx T (nx T p)))))))) (nb T (nx T (nx T (nx T (nx T (nx T (nx T (nx T (nx T (nx T p)))))))))) (nb T (nx T (nx T (nx T (nx T (nx T (nx T (nx T (nx T (nx T (nx T (nx T p)))))))))))) (N.1 n 5)), N.2.1, N.2.2) := by rw [en]; rfl
  rw [e]
  exact h.row hn h12 h1 h2 hf v0 v1 v2 v3 v4 (by rw [h.2.2.2.2.1 n (by omega)]; exact vl) (fun j _ => rfl)
theorem MW.lid {T : Nat → Int × Int64 × Nat} {t t' : Nat → Int32} {S : ((Nat → Int64) × Nat × (Nat → Int64) × Nat × (Nat → Bool) × (Nat → Bool) × Nat)} {N : ((Nat → Nat → Int) × (Nat → Bool) × (Nat → Nat → Int))} {p n : Nat} (h : MW t N) (hn : (t 120).toInt = (n : Int)) (hS : (t 120).toInt = ((S.2.1 : Nat) : Int)) (h12 : n < 12) (h1 : (t' 120).toInt = (t 120).toInt + 1) (h2 : t' 121 = t 121) (hf : ∀ j, 121 ≤ j → (j < 123 + 8 * n ∨ 130 + 8 * n ≤ j ∨ j = 128 + 8 * n) → t' j = t j) (v0 : (t' (123 + 8 * n)).toInt = nb T (nx T (nx T (nx T p)))) (v1 : (t' (123 + 8 * n + 1)).toInt = 1) (v2 : (t' (123 + 8 * n + 2)).toInt = nb T (nx T (nx T (nx T (nx T (nx T p)))))) (v3 : (t' (123 + 8 * n + 3)).toInt = 0) (v4 : (t' (123 + 8 * n + 4)).toInt = nb T (nx T (nx T (nx T (nx T (nx T (nx T (nx T p)))))))) (vl : (t' (129 + 8 * n)).toInt = 1) : MW t' (nLid T S N p) := by
  have en : n = S.2.1 := by omega
  have e : nLid T S N p = (rowU N.1 n (row5 (nb T (nx T (nx T (nx T p)))) 1 (nb T (nx T (nx T (nx T (nx T (nx T p)))))) 0 (nb T (nx T (nx T (nx T (nx T (nx T (nx T (nx T p)))))))) (N.1 n 5)), updB N.2.1 n, N.2.2) := by rw [en]; rfl
  rw [e]
  exact h.row hn h12 h1 h2 hf v0 v1 v2 v3 v4 (by unfold updB; rw [if_pos rfl]; exact vl) (fun j q => by unfold updB; rw [if_neg q])
theorem MW.shelf {T : Nat → Int × Int64 × Nat} {t t' : Nat → Int32} {S : ((Nat → Int64) × Nat × (Nat → Int64) × Nat × (Nat → Bool) × (Nat → Bool) × Nat)} {N : ((Nat → Nat → Int) × (Nat → Bool) × (Nat → Nat → Int))} {p n : Nat} (h : MW t N) (hn : (t 121).toInt = (n : Int)) (hS : (t 121).toInt = ((S.2.2.2.1 : Nat) : Int)) (h4 : n < 4) (h1 : (t' 121).toInt = (t 121).toInt + 1) (hf : ∀ j, (j = 120 ∨ 122 ≤ j) → (j < 219 + 3 * n ∨ 222 + 3 * n ≤ j) → t' j = t j) (hw : (t 120).toInt ≤ 12) (v0 : (t' (219 + 3 * n)).toInt = nb T (nx T (nx T (nx T p)))) (v1 : (t' (219 + 3 * n + 1)).toInt = nb T (nx T (nx T (nx T (nx T (nx T p)))))) (v2 : (t' (219 + 3 * n + 2)).toInt = nb T (nx T (nx T (nx T (nx T (nx T (nx T (nx T p)))))))) : MW t' (nShelf T S N p) := by
  obtain ⟨x1, x2, x3, x4, x5, x6⟩ := h
  have en : n = S.2.2.2.1 := by omega
  have e120 : t' 120 = t 120 := hf 120 (Or.inl rfl) (by omega)
  refine ⟨fun j hj k hk => ?_, fun j hj => ?_, fun j hj => ?_, fun j hj k hk => ?_, fun j hj => ?_, fun j hj => ?_⟩
  · rw [e120] at hj
    rw [hf (123 + 8 * j + k) (by omega) (by omega)]; exact x1 j hj k hk
  · rw [hf (128 + 8 * j) (by omega) (by omega)]; exact x2 j hj
  · rw [hf (129 + 8 * j) (by omega) (by omega)]; exact x3 j hj
  · show _ = rowU N.2.2 S.2.2.2.1 _ j k
    rw [← en]
    by_cases q : j = n
    · rw [q, rowU_s]
      have h5 : k = 0 ∨ k = 1 ∨ k = 2 := by omega
      rcases h5 with rfl | rfl | rfl
      · exact v0
      · exact v1
      · exact v2
    · rw [rowU_n q, hf (219 + 3 * j + k) (by omega) (by omega)]; exact x4 j (by omega) k hk
  · rw [e120] at hj; exact x5 j hj
  · rw [hf (130 + 8 * j) (by omega) (by omega)]; exact x6 j hj
theorem MW.fr {t t' : Nat → Int32} {N : ((Nat → Nat → Int) × (Nat → Bool) × (Nat → Nat → Int))} (h : MW t N) (hw : (t 120).toInt ≤ 12) (hs : (t 121).toInt ≤ 4) (hf : ∀ j, (j = 120 ∨ j = 121 ∨ 123 ≤ j ∧ j < 219 ∧ ¬ j % 8 = 2 ∨ 219 ≤ j ∧ j < 231) → t' j = t j) (h6 : ∀ j, j < 12 → 0 ≤ (t' (130 + 8 * j)).toInt ∧ (t' (130 + 8 * j)).toInt ≤ 1) : MW t' N := by
  obtain ⟨x1, x2, x3, x4, x5, _⟩ := h
  have e120 : t' 120 = t 120 := hf 120 (Or.inl rfl)
  have e121 : t' 121 = t 121 := hf 121 (Or.inr (Or.inl rfl))
  refine ⟨fun j hj k hk => ?_, fun j hj => ?_, fun j hj => ?_, fun j hj k hk => ?_, fun j hj => ?_, h6⟩
  · rw [e120] at hj
    rw [hf (123 + 8 * j + k) (by omega)]; exact x1 j hj k hk
  · rw [hf (128 + 8 * j) (by omega)]; exact x2 j hj
  · rw [hf (129 + 8 * j) (by omega)]; exact x3 j hj
  · rw [e121] at hj
    rw [hf (219 + 3 * j + k) (by omega)]; exact x4 j hj k hk
  · rw [e120] at hj; exact x5 j hj
theorem MW.hab {T : Nat → Int × Int64 × Nat} {t t' : Nat → Int32} {S : ((Nat → Int64) × Nat × (Nat → Int64) × Nat × (Nat → Bool) × (Nat → Bool) × Nat)} {N : ((Nat → Nat → Int) × (Nat → Bool) × (Nat → Nat → Int))} {p k : Nat} (h : MW t N) (hk : k = fnd S.1 S.2.1 (T (nx T p)).2.1) (h12 : k < 12) (hw : (t 120).toInt ≤ 12) (hs : (t 121).toInt ≤ 4) (hf : ∀ j, ¬ j = 128 + 8 * k → t' j = t j) (v0 : (t' (128 + 8 * k)).toInt = nb T (nx T (nx T p))) : MW t' (nHab T S N p) := by
  obtain ⟨x1, x2, x3, x4, x5, x6⟩ := h
  have e120 : t' 120 = t 120 := hf 120 (by omega)
  have e121 : t' 121 = t 121 := hf 121 (by omega)
  refine ⟨fun j hj m hm => ?_, fun j hj => ?_, fun j hj => ?_, fun j hj m hm => ?_, fun j hj => ?_, fun j hj => ?_⟩
  · show _ = rowU N.1 (fnd S.1 S.2.1 (T (nx T p)).2.1) _ j m
    rw [e120] at hj
    rw [hf (123 + 8 * j + m) (by omega), ← hk]
    by_cases q : j = k
    · rw [q, rowU_s, if_neg (show ¬ m = 5 by omega)]; rw [q] at hj; exact x1 k hj m hm
    · rw [rowU_n q]; exact x1 j hj m hm
  · show _ = rowU N.1 (fnd S.1 S.2.1 (T (nx T p)).2.1) _ j 5
    rw [← hk]
    by_cases q : j = k
    · rw [q, rowU_s]; exact v0
    · rw [rowU_n q, hf (128 + 8 * j) (by omega)]; exact x2 j hj
  · rw [hf (129 + 8 * j) (by omega)]; exact x3 j hj
  · rw [e121] at hj
    rw [hf (219 + 3 * j + m) (by omega)]; exact x4 j hj m hm
  · rw [e120] at hj; exact x5 j hj
  · rw [hf (130 + 8 * j) (by omega)]; exact x6 j hj

