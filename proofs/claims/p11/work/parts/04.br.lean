theorem i_lt (a b : Int32) : a < b ↔ a.toInt < b.toInt := Int32.lt_iff_toInt_lt
theorem i_le (a b : Int32) : a ≤ b ↔ a.toInt ≤ b.toInt := Int32.le_iff_toInt_le
theorem i_eq (a b : Int32) : a = b ↔ a.toInt = b.toInt := ⟨fun h => by rw [h], fun h => Int32.toInt_inj.mp h⟩
theorem br_ltt_lt {x y : Int32} (h : x < y) : x < y := h
theorem br_ltf_lt {x y : Int32} (h : ¬ x < y) : ¬ x < y := h
theorem br_ltt_ge {x y : Int32} (h : x < y) : ¬ y ≤ x := by rw [i_lt] at h; rw [i_le]; omega
theorem br_ltf_ge {x y : Int32} (h : ¬ x < y) : y ≤ x := by rw [i_lt] at h; rw [i_le]; omega
theorem br_ltt_eq {x y : Int32} (h : x < y) : ¬ x = y := by rw [i_lt] at h; rw [i_eq]; omega
theorem br_ltt_ne {x y : Int32} (h : x < y) : ¬ x = y := br_ltt_eq h
theorem br_ltt_le {x y : Int32} (h : x < y) : x ≤ y := by rw [i_lt] at h; rw [i_le]; omega
theorem br_ltt_gt {x y : Int32} (h : x < y) : ¬ y < x := by rw [i_lt] at h; rw [i_lt]; omega
theorem br_get_ge {x y : Int32} (h : y ≤ x) : y ≤ x := h
theorem br_gef_ge {x y : Int32} (h : ¬ y ≤ x) : ¬ y ≤ x := h
theorem br_get_lt {x y : Int32} (h : y ≤ x) : ¬ x < y := by rw [i_le] at h; rw [i_lt]; omega
theorem br_gef_lt {x y : Int32} (h : ¬ y ≤ x) : x < y := by rw [i_le] at h; rw [i_lt]; omega
theorem br_gtt_gt {x y : Int32} (h : y < x) : y < x := h
theorem br_gtf_gt {x y : Int32} (h : ¬ y < x) : ¬ y < x := h
theorem br_gtt_le {x y : Int32} (h : y < x) : ¬ x ≤ y := by rw [i_lt] at h; rw [i_le]; omega
theorem br_gtf_le {x y : Int32} (h : ¬ y < x) : x ≤ y := by rw [i_lt] at h; rw [i_le]; omega
theorem br_let_le {x y : Int32} (h : x ≤ y) : x ≤ y := h
theorem br_lef_le {x y : Int32} (h : ¬ x ≤ y) : ¬ x ≤ y := h
theorem br_let_gt {x y : Int32} (h : x ≤ y) : ¬ y < x := by rw [i_le] at h; rw [i_lt]; omega
theorem br_lef_gt {x y : Int32} (h : ¬ x ≤ y) : y < x := by rw [i_le] at h; rw [i_lt]; omega
theorem br_eqt_eq {x y : Int32} (h : x = y) : x = y := h
theorem br_eqf_eq {x y : Int32} (h : ¬ x = y) : ¬ x = y := h
theorem br_eqt_ne {x y : Int32} (h : x = y) : x = y := h
theorem br_eqf_ne {x y : Int32} (h : ¬ x = y) : ¬ x = y := h
theorem br_net_ne {x y : Int32} (h : ¬ x = y) : ¬ x = y := h
theorem br_nef_ne {x y : Int32} (h : x = y) : x = y := h
theorem br_net_eq {x y : Int32} (h : ¬ x = y) : ¬ x = y := h
theorem br_nef_eq {x y : Int32} (h : x = y) : x = y := h
theorem ite_two {c : Prop} [Decidable c] {α : Type} {r a b : α} (h : r = if c then a else b) : (c ∧ r = a) ∨ (¬ c ∧ r = b) := by
  by_cases hc : c
  · rw [if_pos hc] at h; exact Or.inl ⟨hc, h⟩
  · rw [if_neg hc] at h; exact Or.inr ⟨hc, h⟩
theorem zupd {g : Nat → Int32} {n k : Nat} {x : Int32} (hg : ∀ j, j < n → g j = 0) (hx : x = 0) : ∀ j, j < n → upd g k x j = 0 := fun j hj => by
  by_cases h : j = k
  · subst h; rw [pk_us]; exact hx
  · rw [pk_un h]; exact hg j hj
theorem sw_2 (x : Int32) : (x.toInt < 0 ∨ 1 < x.toInt) ∨ x = 0 ∨ x = 1 := by
  simp only [i_eq]; have h0 : (0 : Int32).toInt = 0 := rfl; have h1 : (1 : Int32).toInt = 1 := rfl; omega
theorem sw_3 (x : Int32) : (x.toInt < 0 ∨ 2 < x.toInt) ∨ x = 0 ∨ x = 1 ∨ x = 2 := by
  simp only [i_eq]; have h0 : (0 : Int32).toInt = 0 := rfl; have h1 : (1 : Int32).toInt = 1 := rfl; have h2 : (2 : Int32).toInt = 2 := rfl; omega
theorem sw_6 (x : Int32) : (x.toInt < 0 ∨ 5 < x.toInt) ∨ x = 0 ∨ x = 1 ∨ x = 2 ∨ x = 3 ∨ x = 4 ∨ x = 5 := by
  simp only [i_eq]; have h0 : (0 : Int32).toInt = 0 := rfl; have h1 : (1 : Int32).toInt = 1 := rfl; have h2 : (2 : Int32).toInt = 2 := rfl; have h3 : (3 : Int32).toInt = 3 := rfl; have h4 : (4 : Int32).toInt = 4 := rfl; have h5 : (5 : Int32).toInt = 5 := rfl; omega
theorem sw_28 (x : Int32) : (x.toInt < 0 ∨ 27 < x.toInt) ∨ x = 0 ∨ x = 1 ∨ x = 2 ∨ x = 3 ∨ x = 4 ∨ x = 5 ∨ x = 6 ∨ x = 7 ∨ x = 8 ∨ x = 9 ∨ x = 10 ∨ x = 11 ∨ x = 12 ∨ x = 13 ∨ x = 14 ∨ x = 15 ∨ x = 16 ∨ x = 17 ∨ x = 18 ∨ x = 19 ∨ x = 20 ∨ x = 21 ∨ x = 22 ∨ x = 23 ∨ x = 24 ∨ x = 25 ∨ x = 26 ∨ x = 27 := by
  simp only [i_eq]; have h0 : (0 : Int32).toInt = 0 := rfl; have h1 : (1 : Int32).toInt = 1 := rfl; have h2 : (2 : Int32).toInt = 2 := rfl; have h3 : (3 : Int32).toInt = 3 := rfl; have h4 : (4 : Int32).toInt = 4 := rfl; have h5 : (5 : Int32).toInt = 5 := rfl; have h6 : (6 : Int32).toInt = 6 := rfl; have h7 : (7 : Int32).toInt = 7 := rfl; have h8 : (8 : Int32).toInt = 8 := rfl; have h9 : (9 : Int32).toInt = 9 := rfl; have h10 : (10 : Int32).toInt = 10 := rfl; have h11 : (11 : Int32).toInt = 11 := rfl; have h12 : (12 : Int32).toInt = 12 := rfl; have h13 : (13 : Int32).toInt = 13 := rfl; have h14 : (14 : Int32).toInt = 14 := rfl; have h15 : (15 : Int32).toInt = 15 := rfl; have h16 : (16 : Int32).toInt = 16 := rfl; have h17 : (17 : Int32).toInt = 17 := rfl; have h18 : (18 : Int32).toInt = 18 := rfl; have h19 : (19 : Int32).toInt = 19 := rfl; have h20 : (20 : Int32).toInt = 20 := rfl; have h21 : (21 : Int32).toInt = 21 := rfl; have h22 : (22 : Int32).toInt = 22 := rfl; have h23 : (23 : Int32).toInt = 23 := rfl; have h24 : (24 : Int32).toInt = 24 := rfl; have h25 : (25 : Int32).toInt = 25 := rfl; have h26 : (26 : Int32).toInt = 26 := rfl; have h27 : (27 : Int32).toInt = 27 := rfl; omega
theorem four (x : Int32) (h : 0 ≤ x ∧ x ≤ 3) : x = 0 ∨ x = 1 ∨ x = 2 ∨ x = 3 := by
  simp only [i_eq, i_le] at *; have h0 : (0 : Int32).toInt = 0 := rfl; have h1 : (1 : Int32).toInt = 1 := rfl; have h2 : (2 : Int32).toInt = 2 := rfl; have h3 : (3 : Int32).toInt = 3 := rfl; omega
theorem i_nn {i : Int32} (h : 0 ≤ i.toInt) : ¬ i < 0 := by rw [i_lt]; have h0 : (0 : Int32).toInt = 0 := rfl; omega
theorem i_lt_n {z : Int} {n : Nat} (h : 0 ≤ z) (h2 : z < n) : z.toNat < n := by omega
/-- the first n of a row of ints lie between lo and hi -/
def Iv (n : Nat) (lo hi : Int) (f : Nat → Int32) : Prop := ∀ j, j < n → lo ≤ (f j).toInt ∧ (f j).toInt ≤ hi
theorem Iv.upd {n : Nat} {lo hi : Int} {f : Nat → Int32} {k : Nat} {x : Int32} (h : Iv n lo hi f) (h1 : lo ≤ x.toInt) (h2 : x.toInt ≤ hi) : Iv n lo hi (upd f k x) := fun j hj => by
  by_cases e : j = k
  · subst e; rw [pk_us]; exact ⟨h1, h2⟩
  · rw [pk_un e]; exact h j hj
theorem Iv.const {n : Nat} {lo hi : Int} {x : Int32} (h1 : lo ≤ x.toInt) (h2 : x.toInt ≤ hi) : Iv n lo hi (fun _ => x) := fun _ _ => ⟨h1, h2⟩
theorem Iv.cpy {n m : Nat} {lo hi : Int} {f g : Nat → Int32} (hf : Iv m lo hi f) (hg : Iv n lo hi g) (h : m ≤ n) : Iv n lo hi (va_cpy f g 0 0 m) := fun j hj => by
  by_cases e : j < m
  · rw [pk_cpy_in (Nat.zero_le _) (by omega)]; simpa using hf j e
  · rw [pk_cpy_out (Or.inr (by omega))]; exact hg j hj
theorem cpy_full {n j : Nat} {f g : Nat → Int32} (h : j < n) : va_cpy f g 0 0 n j = f j := by
  rw [pk_cpy_in (Nat.zero_le _) (by omega)]; simp
theorem and1_r (x : Int32) : 0 ≤ (x &&& 1).toInt ∧ (x &&& 1).toInt ≤ 1 := by
  obtain ⟨j, hj, e⟩ := pk_andE x (m := 1) 1 (by decide)
  rw [e, nI_toInt (by omega)]; omega
theorem and1_l (x : Int32) : 0 ≤ ((1 : Int32) &&& x).toInt ∧ ((1 : Int32) &&& x).toInt ≤ 1 := by
  rw [show (1 : Int32) &&& x = x &&& 1 from Int32.and_comm ..]; exact and1_r x
theorem n_of32 (x : Int32) : ∃ n, n < 2 ^ 32 ∧ x = nI n := ⟨x.toBitVec.toNat, x.toBitVec.isLt, Int32.toBitVec_inj.mp (by show _ = BitVec.ofNat 32 _; simp)⟩
theorem i_bd (x : Int32) : -2147483648 ≤ x.toInt ∧ x.toInt ≤ 2147483647 := by
  have h1 := Int32.le_toInt x; have h2 := Int32.toInt_lt x
  omega
theorem pw_mono {a b : Nat} (h : a ≤ b) : 2 ^ a ≤ 2 ^ b := Nat.pow_le_pow_right (by decide) h
theorem shl1_t : ∀ n, n < 31 → ((1 : Int32) <<< (nI n &&& 31)).toInt = 2 ^ n := by decide +kernel
theorem nI_ofI {x : Int32} (h : 0 ≤ x.toInt) : ∃ n : Nat, x = nI n ∧ (n : Int) = x.toInt ∧ n < 2 ^ 31 := by
  obtain ⟨n, hn, e⟩ := n_of32 x
  have h2 : n < 2 ^ 31 := by
    rcases Nat.lt_or_ge n (2 ^ 31) with q | q
    · exact q
    · exfalso; rw [e] at h; have : (nI n).toInt = (n : Int) - 2 ^ 32 := by
        show (BitVec.ofNat 32 n).toInt = _
        rw [BitVec.toInt_eq_toNat_cond, BitVec.toNat_ofNat, Nat.mod_eq_of_lt hn, if_neg (by omega)]; rfl
      omega
  exact ⟨n, e, by rw [e, nI_toInt (by omega)], h2⟩
theorem shl1_I {y : Int32} (h0 : 0 ≤ y.toInt) (h1 : y.toInt ≤ 30) : ((1 : Int32) <<< (y &&& 31)).toInt = 2 ^ y.toInt.toNat := by
  obtain ⟨n, e, hn, _⟩ := nI_ofI h0
  rw [← hn, e, shl1_t n (by omega)]; rfl
theorem shl1_iv {y : Int32} (a b : Nat) (h0 : (a : Int) ≤ y.toInt) (h1 : y.toInt ≤ b) (hb : b ≤ 30) : (2 : Int) ^ a ≤ ((1 : Int32) <<< (y &&& 31)).toInt ∧ ((1 : Int32) <<< (y &&& 31)).toInt ≤ 2 ^ b := by
  rw [shl1_I (by omega) (by omega)]
  have h2 := pw_mono (a := a) (b := y.toInt.toNat) (by omega)
  have h3 := pw_mono (a := y.toInt.toNat) (b := b) (by omega)
  have e1 : ((2 ^ a : Nat) : Int) = 2 ^ a := by simp
  have e2 : ((2 ^ b : Nat) : Int) = 2 ^ b := by simp
  have e3 : ((2 ^ y.toInt.toNat : Nat) : Int) = 2 ^ y.toInt.toNat := by simp
  omega
theorem andm_r (x : Int32) {m : Int32} (k : Nat) (hm : m.toBitVec.toNat = 2 ^ k - 1) (hk : k ≤ 30) : 0 ≤ (x &&& m).toInt ∧ (x &&& m).toInt ≤ 2 ^ k - 1 := by
  obtain ⟨j, hj, e⟩ := pk_andE x k hm
  have h3 := pw_mono hk
  rw [e, nI_toInt (by omega)]
  have e1 : ((2 ^ k : Nat) : Int) = 2 ^ k := by simp
  omega
theorem andm_l (x : Int32) {m : Int32} (k : Nat) (hm : m.toBitVec.toNat = 2 ^ k - 1) (hk : k ≤ 30) : 0 ≤ (m &&& x).toInt ∧ (m &&& x).toInt ≤ 2 ^ k - 1 := by
  rw [show m &&& x = x &&& m from Int32.and_comm ..]; exact andm_r x k hm hk
theorem n_and (a b : Nat) : nI a &&& nI b = nI (a &&& b) := by
  apply Int32.toBitVec_inj.mp; show BitVec.ofNat 32 a &&& BitVec.ofNat 32 b = BitVec.ofNat 32 (a &&& b)
  apply BitVec.eq_of_toNat_eq; simp [BitVec.toNat_and, Nat.and_mod_two_pow]
theorem n_or (a b : Nat) : nI a ||| nI b = nI (a ||| b) := by
  apply Int32.toBitVec_inj.mp; show BitVec.ofNat 32 a ||| BitVec.ofNat 32 b = BitVec.ofNat 32 (a ||| b)
  apply BitVec.eq_of_toNat_eq; simp [BitVec.toNat_or, Nat.or_mod_two_pow]
theorem n_xor (a b : Nat) : nI a ^^^ nI b = nI (a ^^^ b) := by
  apply Int32.toBitVec_inj.mp; show BitVec.ofNat 32 a ^^^ BitVec.ofNat 32 b = BitVec.ofNat 32 (a ^^^ b)
  apply BitVec.eq_of_toNat_eq; simp [BitVec.toNat_xor, Nat.xor_mod_two_pow]
theorem andb_r {x y : Int32} (h : 0 ≤ y.toInt) : 0 ≤ (x &&& y).toInt ∧ (x &&& y).toInt ≤ y.toInt := by
  obtain ⟨b, eb, hb, hb2⟩ := nI_ofI h
  obtain ⟨a, _, ea⟩ := n_of32 x
  have := Nat.and_le_right (n := a) (m := b)
  rw [ea, eb, n_and, nI_toInt (by omega), nI_toInt hb2]; omega
theorem andb_l {x y : Int32} (h : 0 ≤ x.toInt) : 0 ≤ (x &&& y).toInt ∧ (x &&& y).toInt ≤ x.toInt := by
  rw [show x &&& y = y &&& x from Int32.and_comm ..]; exact andb_r h
theorem xorb {x y : Int32} (k : Nat) (hk : k ≤ 30) (hx : 0 ≤ x.toInt) (hy : 0 ≤ y.toInt) (hx2 : x.toInt ≤ 2 ^ k - 1) (hy2 : y.toInt ≤ 2 ^ k - 1) : 0 ≤ (x ^^^ y).toInt ∧ (x ^^^ y).toInt ≤ 2 ^ k - 1 := by
  obtain ⟨a, ea, ha, ha2⟩ := nI_ofI hx
  obtain ⟨b, eb, hb, hb2⟩ := nI_ofI hy
  have e1 : ((2 ^ k : Nat) : Int) = 2 ^ k := by simp
  have h3 := pw_mono hk
  have h4 : a ^^^ b < 2 ^ k := Nat.xor_lt_two_pow (by omega) (by omega)
  rw [ea, eb, n_xor, nI_toInt (by omega)]; omega
theorem orb {x y : Int32} (k : Nat) (hk : k ≤ 30) (hx : 0 ≤ x.toInt) (hy : 0 ≤ y.toInt) (hx2 : x.toInt ≤ 2 ^ k - 1) (hy2 : y.toInt ≤ 2 ^ k - 1) : 0 ≤ (x ||| y).toInt ∧ (x ||| y).toInt ≤ 2 ^ k - 1 := by
  obtain ⟨a, ea, ha, ha2⟩ := nI_ofI hx
  obtain ⟨b, eb, hb, hb2⟩ := nI_ofI hy
  have e1 : ((2 ^ k : Nat) : Int) = 2 ^ k := by simp
  have h3 := pw_mono hk
  have h4 : a ||| b < 2 ^ k := Nat.or_lt_two_pow (by omega) (by omega)
  rw [ea, eb, n_or, nI_toInt (by omega)]; omega
theorem fb_bmod {z : Int} (h1 : -2147483648 ≤ z) (h2 : z < 2147483648) : z.bmod (2 ^ 32) = z := by
  rw [Int.bmod_def]; split <;> omega
theorem fb_addI {x y : Int32} (h1 : -2147483648 ≤ x.toInt + y.toInt) (h2 : x.toInt + y.toInt < 2147483648) : (x + y).toInt = x.toInt + y.toInt := by rw [Int32.toInt_add, fb_bmod h1 h2]
theorem fb_subI {x y : Int32} (h1 : -2147483648 ≤ x.toInt - y.toInt) (h2 : x.toInt - y.toInt < 2147483648) : (x - y).toInt = x.toInt - y.toInt := by rw [Int32.toInt_sub, fb_bmod h1 h2]
theorem fb_mulI {x y : Int32} (h1 : -2147483648 ≤ x.toInt * y.toInt) (h2 : x.toInt * y.toInt < 2147483648) : (x * y).toInt = x.toInt * y.toInt := by rw [Int32.toInt_mul, fb_bmod h1 h2]
theorem j_subG {p : Program} {l : Launch} {e : Env} {R : Room} {s : State} {m : MethodId} {args : Array Value} {below : List Frame} {meth : Method} {c : Code} {nL : Nat} {D : DG} {A : Nat → Prop} {cells slots : Nat} {Q : State → Prop} {ws ws' : va_W} {pc : Nat} {lv : List (Nat × Value)} {rest : List Value} (is : List Nat) (hn : va_nd is = true) (hs : is.map (fun i => ws[i]?) = ws'.map some) (kk : J p l e R s m args below meth c D A nL cells slots Q ws' pc lv rest) : J p l e R s m args below meth c D A nL cells slots Q ws pc lv rest := fun H locs ls hP hD hS hl => kk H locs ls (hP.sub is (fm_of hs)) (hD.sub is hn hs) hS hl
theorem j_mmax {p : Program} {l : Launch} {e : Env} {R : Room} {s : State} {m : MethodId} {args : Array Value} {below : List Frame} {meth : Method} {c : Code} {cc : ByteArray} {own : String} {nL : Nat} {D : DG} {tys : List (ClassId × FieldType)} {A : Nat → Prop} {cells slots : Nat} {Q : State → Prop} {ws : va_W} {pc : Nat} {lv : List (Nat × Value)} {rest : List Value} (C : CX p R s m args meth c cc own nL D tys A) {ix : Nat} (hw : Cond.methodLink own ix Lib.Math.max.name ∈ WALL) (hw1 : Cond.static Lib.Math.max.name ∈ WALL) (hw2 : Cond.initialized "java/lang/Math" ∈ WALL) (hw3 : Cond.code Lib.Math.max.name Lib.Math.max.code 2 (some .int) ∈ WALL) (hfr : 1 ≤ R.frames) (hlo : (rest.map fun v => v.category).sum + 13 ≤ R.locals) (hc : cells ≤ R.cells) (hs : slots ≤ R.slots) {x y v : Int32} (hv : (if x < y then y else x) = v) (hd : decode cc pc = .ok (.invokestatic ix, 3))
    (kk : J p l e R s m args below meth c D A nL cells slots Q ws (pc + 3) lv (.int v :: rest)) : J p l e R s m args below meth c D A nL cells slots Q ws pc lv (.int y :: .int x :: rest) := fun H locs ls hP hD hS hl => va_mmax C.1 C.2.1 (C.2.2.1.trans hl.1.symm) C.2.2.2.1 (C.2.2.2.2.1 _ hw) (C.2.2.2.2.1 _ hw1) (C.2.2.2.2.1 _ hw2) (C.2.2.2.2.1 _ hw3) hfr hlo hc hs hd (hv ▸ kk H locs ls hP hD hS hl)
theorem mmax_I (x y : Int32) : (if x < y then y else x).toInt = max x.toInt y.toInt := by
  by_cases h : x < y
  · rw [if_pos h]; rw [i_lt] at h; omega
  · rw [if_neg h]; rw [i_lt] at h; omega
theorem j_mmin {p : Program} {l : Launch} {e : Env} {R : Room} {s : State} {m : MethodId} {args : Array Value} {below : List Frame} {meth : Method} {c : Code} {cc : ByteArray} {own : String} {nL : Nat} {D : DG} {tys : List (ClassId × FieldType)} {A : Nat → Prop} {cells slots : Nat} {Q : State → Prop} {ws : va_W} {pc : Nat} {lv : List (Nat × Value)} {rest : List Value} (C : CX p R s m args meth c cc own nL D tys A) {ix : Nat} (hw : Cond.methodLink own ix Lib.Math.min.name ∈ WALL) (hw1 : Cond.static Lib.Math.min.name ∈ WALL) (hw2 : Cond.initialized "java/lang/Math" ∈ WALL) (hw3 : Cond.code Lib.Math.min.name Lib.Math.min.code 2 (some .int) ∈ WALL) (hfr : 1 ≤ R.frames) (hlo : (rest.map fun v => v.category).sum + 13 ≤ R.locals) (hc : cells ≤ R.cells) (hs : slots ≤ R.slots) {x y v : Int32} (hv : (if y < x then y else x) = v) (hd : decode cc pc = .ok (.invokestatic ix, 3))
    (kk : J p l e R s m args below meth c D A nL cells slots Q ws (pc + 3) lv (.int v :: rest)) : J p l e R s m args below meth c D A nL cells slots Q ws pc lv (.int y :: .int x :: rest) := fun H locs ls hP hD hS hl => va_mmin C.1 C.2.1 (C.2.2.1.trans hl.1.symm) C.2.2.2.1 (C.2.2.2.2.1 _ hw) (C.2.2.2.2.1 _ hw1) (C.2.2.2.2.1 _ hw2) (C.2.2.2.2.1 _ hw3) hfr hlo hc hs hd (hv ▸ kk H locs ls hP hD hS hl)
theorem mmin_I (x y : Int32) : (if y < x then y else x).toInt = min x.toInt y.toInt := by
  by_cases h : y < x
  · rw [if_pos h]; rw [i_lt] at h; omega
  · rw [if_neg h]; rw [i_lt] at h; omega
theorem nb_01 {x : Int32} (h : 0 ≤ x.toInt ∧ x.toInt ≤ 1) : narrow .boolean (.int x) = .int x ∧ fits .boolean (.int x) = true := by
  have h0 : x = 0 ∨ x = 1 := by simp only [i_eq]; have e0 : (0 : Int32).toInt = 0 := rfl; have e1 : (1 : Int32).toInt = 1 := rfl; omega
  rcases h0 with rfl | rfl <;> exact ⟨rfl, rfl⟩
theorem j_ineg {p : Program} {l : Launch} {e : Env} {R : Room} {s : State} {m : MethodId} {args : Array Value} {below : List Frame} {meth : Method} {c : Code} {cc : ByteArray} {own : String} {nL : Nat} {D : DG} {tys : List (ClassId × FieldType)} {A : Nat → Prop} {cells slots : Nat} {Q : State → Prop} {ws : va_W} {pc : Nat} {lv : List (Nat × Value)} {rest : List Value} (C : CX p R s m args meth c cc own nL D tys A) {x v : Int32} (hd : decode cc pc = .ok (.ineg, 1)) (hv : -x = v) (kk : J p l e R s m args below meth c D A nL cells slots Q ws (pc + 1) lv (.int v :: rest)) : J p l e R s m args below meth c D A nL cells slots Q ws pc lv (.int x :: rest) := fun H locs ls hP hD hS hl => lv_ineg C.1 C.2.1 hd (hv ▸ kk H locs ls hP hD hS hl)
theorem j_irem {p : Program} {l : Launch} {e : Env} {R : Room} {s : State} {m : MethodId} {args : Array Value} {below : List Frame} {meth : Method} {c : Code} {cc : ByteArray} {own : String} {nL : Nat} {D : DG} {tys : List (ClassId × FieldType)} {A : Nat → Prop} {cells slots : Nat} {Q : State → Prop} {ws : va_W} {pc : Nat} {lv : List (Nat × Value)} {rest : List Value} (C : CX p R s m args meth c cc own nL D tys A) {x y v : Int32} (hd : decode cc pc = .ok (.irem, 1)) (hne : ¬ y = 0) (hv : x - x / y * y = v) (kk : J p l e R s m args below meth c D A nL cells slots Q ws (pc + 1) lv (.int v :: rest)) : J p l e R s m args below meth c D A nL cells slots Q ws pc lv (.int y :: .int x :: rest) := fun H locs ls hP hD hS hl => lv_irem C.1 C.2.1 hd hne (hv ▸ kk H locs ls hP hD hS hl)
theorem j_lrem {p : Program} {l : Launch} {e : Env} {R : Room} {s : State} {m : MethodId} {args : Array Value} {below : List Frame} {meth : Method} {c : Code} {cc : ByteArray} {own : String} {nL : Nat} {D : DG} {tys : List (ClassId × FieldType)} {A : Nat → Prop} {cells slots : Nat} {Q : State → Prop} {ws : va_W} {pc : Nat} {lv : List (Nat × Value)} {rest : List Value} (C : CX p R s m args meth c cc own nL D tys A) {x y v : Int64} (hd : decode cc pc = .ok (.lrem, 1)) (hne : ¬ y = 0) (hv : x - x / y * y = v) (kk : J p l e R s m args below meth c D A nL cells slots Q ws (pc + 1) lv (.long v :: rest)) : J p l e R s m args below meth c D A nL cells slots Q ws pc lv (.long y :: .long x :: rest) := fun H locs ls hP hD hS hl => lv_lrem C.1 C.2.1 hd hne (hv ▸ kk H locs ls hP hD hS hl)
theorem j_ldiv {p : Program} {l : Launch} {e : Env} {R : Room} {s : State} {m : MethodId} {args : Array Value} {below : List Frame} {meth : Method} {c : Code} {cc : ByteArray} {own : String} {nL : Nat} {D : DG} {tys : List (ClassId × FieldType)} {A : Nat → Prop} {cells slots : Nat} {Q : State → Prop} {ws : va_W} {pc : Nat} {lv : List (Nat × Value)} {rest : List Value} (C : CX p R s m args meth c cc own nL D tys A) {x y v : Int64} (hd : decode cc pc = .ok (.ldiv, 1)) (hne : ¬ y = 0) (hv : x / y = v) (kk : J p l e R s m args below meth c D A nL cells slots Q ws (pc + 1) lv (.long v :: rest)) : J p l e R s m args below meth c D A nL cells slots Q ws pc lv (.long y :: .long x :: rest) := fun H locs ls hP hD hS hl => lv_ldiv C.1 C.2.1 hd hne (hv ▸ kk H locs ls hP hD hS hl)
def lc (x y : Int64) : Int32 := if x > y then 1 else if x = y then 0 else -1
theorem lv_lcmp {p : Program} {l : Launch} {e : Env} {R : Room} {s : State} {m : MethodId} {args : Array Value} {below : List Frame} {meth : Method} {c : Code} {cc : ByteArray} {cells slots : Nat} {Q : State → Prop} {H : Heap} {locs : List Loc} {ls : Array Slot} {pc : Nat} {rest : List Value} (hexec : p.tables.exec = Jvm.exec) (hb : c.code = cc) {x y : Int64} (hdg : decode cc pc = .ok (.lcmp, 1)) (k : W p l e R s m args below meth c H locs cells slots Q (F0 m (pc + 1) ls (.int (lc x y) :: rest))) : W p l e R s m args below meth c H locs cells slots Q (F0 m pc ls (.long y :: .long x :: rest)) := by
  intro T hT X
  obtain ⟨t, a, b⟩ := k T hT X
  refine ⟨t, ?_, b⟩
  unfold lc at a
  by_cases h1 : x > y
  · rw [if_pos h1] at a
    jvm_step X.here [X.here.top, hexec, hb, hdg, h1]
    exact a
  · rw [if_neg h1] at a
    by_cases h2 : x = y
    · rw [if_pos h2] at a
      jvm_step X.here [X.here.top, hexec, hb, hdg, h1, h2]
      exact a
    · rw [if_neg h2] at a
      jvm_step X.here [X.here.top, hexec, hb, hdg, h1, h2]
      exact a
theorem j_lcmp {p : Program} {l : Launch} {e : Env} {R : Room} {s : State} {m : MethodId} {args : Array Value} {below : List Frame} {meth : Method} {c : Code} {cc : ByteArray} {own : String} {nL : Nat} {D : DG} {tys : List (ClassId × FieldType)} {A : Nat → Prop} {cells slots : Nat} {Q : State → Prop} {ws : va_W} {pc : Nat} {lv : List (Nat × Value)} {rest : List Value} (C : CX p R s m args meth c cc own nL D tys A) {x y : Int64} {v : Int32} (hd : decode cc pc = .ok (.lcmp, 1)) (hv : lc x y = v) (kk : J p l e R s m args below meth c D A nL cells slots Q ws (pc + 1) lv (.int v :: rest)) : J p l e R s m args below meth c D A nL cells slots Q ws pc lv (.long y :: .long x :: rest) := fun H locs ls hP hD hS hl => lv_lcmp C.1 C.2.1 hd (hv ▸ kk H locs ls hP hD hS hl)
theorem lc_eq {x y : Int64} {v : Int32} (h : lc x y = v) : (v = 0 ↔ x = y) ∧ (v < 0 ↔ x < y) ∧ -1 ≤ v.toInt ∧ v.toInt ≤ 1 := by
  subst h; unfold lc
  by_cases h1 : x > y
  · rw [if_pos h1]
    have h2 : y.toInt < x.toInt := Int64.lt_iff_toInt_lt.mp h1
    refine ⟨⟨fun q => absurd q (by decide), fun q => ?_⟩, ⟨fun q => absurd q (by decide), fun q => ?_⟩, by decide, by decide⟩
    · rw [q] at h2; omega
    · have := Int64.lt_iff_toInt_lt.mp q; omega
  · rw [if_neg h1]
    by_cases h2 : x = y
    · rw [if_pos h2]
      refine ⟨⟨fun _ => h2, fun _ => rfl⟩, ⟨fun q => absurd q (by decide), fun q => ?_⟩, by decide, by decide⟩
      have := Int64.lt_iff_toInt_lt.mp q; rw [h2] at this; omega
    · rw [if_neg h2]
      refine ⟨⟨fun q => absurd q (by decide), fun q => absurd q h2⟩, ⟨fun q => ?_, fun _ => by decide⟩, by decide, by decide⟩
      have h3 : ¬ y.toInt < x.toInt := fun q => h1 (Int64.lt_iff_toInt_lt.mpr q)
      have h4 : ¬ x.toInt = y.toInt := fun q => h2 (Int64.toInt_inj.mp q)
      exact Int64.lt_iff_toInt_lt.mpr (by omega)
theorem shr0 (x : Int32) : x >>> ((0 : Int32) &&& 31) = x := by
  apply Int32.toBitVec_inj.mp
  show x.toBitVec.sshiftRight _ = _
  simp
theorem i2c_id {x : Int32} (h0 : 0 ≤ x.toInt) (h1 : x.toInt ≤ 65535) : (x.toUInt32 % 65536).toInt32 = x := by
  obtain ⟨n, e, h, hn⟩ := nI_ofI h0
  apply Int32.toBitVec_inj.mp
  apply BitVec.eq_of_toNat_eq
  have h2 : x.toBitVec.toNat = n := by rw [e]; show (BitVec.ofNat 32 n).toNat = n; rw [BitVec.toNat_ofNat]; exact Nat.mod_eq_of_lt (by omega)
  have h3 : (x.toUInt32 % 65536).toInt32.toBitVec.toNat = x.toBitVec.toNat % 65536 := rfl
  rw [h3, h2]; omega
theorem i2c_bd (x : Int32) : 0 ≤ ((x.toUInt32 % 65536).toInt32).toInt ∧ ((x.toUInt32 % 65536).toInt32).toInt ≤ 65535 := by
  have h3 : ((x.toUInt32 % 65536).toInt32).toBitVec.toNat = x.toBitVec.toNat % 65536 := rfl
  have h4 : ((x.toUInt32 % 65536).toInt32).toInt = ((x.toUInt32 % 65536).toInt32).toBitVec.toInt := rfl
  rw [h4, BitVec.toInt_eq_toNat_of_lt (by rw [h3]; omega), h3]; omega
theorem pw1 (k : Nat) : (1 : Int) ≤ 2 ^ k := by
  have h := Nat.two_pow_pos k
  have e1 : ((2 ^ k : Nat) : Int) = 2 ^ k := by simp
  omega
theorem xorP {x y : Int32} {k : Nat} (hk : k ≤ 30) (hx : 0 ≤ x.toInt) (hy : 0 ≤ y.toInt) (hx2 : x.toInt < 2 ^ k) (hy2 : y.toInt < 2 ^ k) : 0 ≤ (x ^^^ y).toInt ∧ (x ^^^ y).toInt < 2 ^ k := by
  have := xorb k hk hx hy (by omega) (by omega); omega
theorem shl1_lt {y : Int32} {k : Nat} (hk : k ≤ 30) (h0 : 0 ≤ y.toInt) (h1 : y.toInt < k) : ((1 : Int32) <<< (y &&& 31)).toInt < 2 ^ k := by
  rw [shl1_I h0 (by omega)]
  have h2 : 2 ^ y.toInt.toNat < 2 ^ k := Nat.pow_lt_pow_right (by decide) (by omega)
  have e1 : ((2 ^ k : Nat) : Int) = 2 ^ k := by simp
  have e3 : ((2 ^ y.toInt.toNat : Nat) : Int) = 2 ^ y.toInt.toNat := by simp
  omega
theorem mulS {x y : Int32} (h0 : 0 ≤ x.toInt) (h1 : x.toInt ≤ 4096) (h2 : 0 ≤ y.toInt) (h3 : y.toInt ≤ 12) : (x * y).toInt = x.toInt * y.toInt ∧ 0 ≤ x.toInt * y.toInt ∧ x.toInt * y.toInt ≤ 49152 := by
  have a : 0 ≤ x.toInt * y.toInt := Int.mul_nonneg h0 h2
  have b : x.toInt * y.toInt ≤ 4096 * 12 := Int.mul_le_mul h1 h3 h2 (by decide)
  exact ⟨fb_mulI (by omega) (by omega), a, by omega⟩
theorem ix_mul {x w S r : Int} (hx : 0 ≤ x) (hS : x < S) (hw : 0 ≤ w) (h : S * w ≤ r) : x * w + w ≤ r := by
  have a : (x + 1) * w ≤ S * w := Int.mul_le_mul_of_nonneg_right (by omega) hw
  rw [Int.add_mul, Int.one_mul] at a; omega
/-- the lengths of the tables of heights -/
def HL (n r : Nat) : Prop := (n = 0 ∧ r = 0) ∨ ∃ K, K ≤ 12 ∧ n = 2 ^ K ∧ r = 2 ^ K * K
theorem HL.bd {n r : Nat} (h : HL n r) : n ≤ 4096 ∧ r ≤ 49152 := by
  rcases h with ⟨h1, h2⟩ | ⟨K, hK, h1, h2⟩
  · omega
  · have a := pw_mono hK
    have b := Nat.mul_le_mul a hK
    omega
theorem HL.le {n r : Nat} (h : HL n r) {a : Nat} (ha : (2 : Int) ^ a ≤ (n : Int)) : (2 : Int) ^ a * a ≤ (r : Int) := by
  have e1 : ((2 ^ a : Nat) : Int) = 2 ^ a := by simp
  have p0 := Nat.two_pow_pos a
  rcases h with ⟨h1, h2⟩ | ⟨K, hK, h1, h2⟩
  · omega
  · have h3 : a ≤ K := by
      rcases Nat.lt_or_ge K a with q | q
      · have := Nat.pow_lt_pow_right (a := 2) (by decide) q; omega
      · exact q
    have h4 : 2 ^ a * a ≤ 2 ^ K * K := Nat.mul_le_mul (pw_mono h3) h3
    rw [h2, ← e1]; exact Int.ofNat_le.mpr h4
theorem HL.leI {n r : Nat} (h : HL n r) {x : Int32} (hx : 0 ≤ x.toInt) (ha : (2 : Int) ^ x.toInt.toNat ≤ (n : Int)) : (2 : Int) ^ x.toInt.toNat * x.toInt ≤ (r : Int) := by
  have := h.le ha
  rwa [Int.toNat_of_nonneg hx] at this
theorem HL.mk {s x : Int32} {m : Int32} (h0 : 0 ≤ x.toInt) (h1 : x.toInt ≤ 12) (hs : s.toInt = 2 ^ x.toInt.toNat) (hm : m.toInt = s.toInt * x.toInt) : HL s.toInt.toNat m.toInt.toNat := by
  refine Or.inr ⟨x.toInt.toNat, by omega, ?_, ?_⟩
  · have e1 : ((2 ^ x.toInt.toNat : Nat) : Int) = 2 ^ x.toInt.toNat := by simp
    rw [hs, ← e1]; exact Int.toNat_natCast _
  · rw [hm, hs]
    have e1 : ((2 ^ x.toInt.toNat * x.toInt.toNat : Nat) : Int) = 2 ^ x.toInt.toNat * x.toInt := by rw [Int.natCast_mul, Int.toNat_of_nonneg h0]; simp
    rw [← e1]; rfl
