theorem i_lt (a b : Int32) : a < b ↔ a.toInt < b.toInt := Int32.lt_iff_toInt_lt
theorem i_le (a b : Int32) : a ≤ b ↔ a.toInt ≤ b.toInt := Int32.le_iff_toInt_le
theorem i_eq (a b : Int32) : a = b ↔ a.toInt = b.toInt := ⟨fun h => by rw [h], fun h => Int32.toInt_inj.mp h⟩
theorem br_ltt_lt {x y : Int32} (h : x < y) : x < y := h
theorem br_ltf_lt {x y : Int32} (h : ¬ x < y) : ¬ x < y := h
theorem br_ltt_ge {x y : Int32} (h : x < y) : ¬ y ≤ x := by rw [i_lt] at h; rw [i_le]; omega
theorem br_ltf_ge {x y : Int32} (h : ¬ x < y) : y ≤ x := by rw [i_lt] at h; rw [i_le]; omega
theorem br_ltt_eq {x y : Int32} (h : x < y) : ¬ x = y := by rw [i_lt] at h; rw [i_eq]; omega
theorem br_ltt_ne {x y : Int32} (h : x < y) : ¬ x = y := br_ltt_eq h
theorem br_ltt_le {x y : Int32} (h : x < y) : x ≤ y := by rw [i_lt] at h; rw [i_le]; omega
theorem br_ltt_gt {x y : Int32} (h : x < y) : ¬ y < x := by rw [i_lt] at h; rw [i_lt]; omega
theorem br_get_ge {x y : Int32} (h : y ≤ x) : y ≤ x := h
theorem br_gef_ge {x y : Int32} (h : ¬ y ≤ x) : ¬ y ≤ x := h
theorem br_get_lt {x y : Int32} (h : y ≤ x) : ¬ x < y := by rw [i_le] at h; rw [i_lt]; omega
theorem br_gef_lt {x y : Int32} (h : ¬ y ≤ x) : x < y := by rw [i_le] at h; rw [i_lt]; omega
theorem br_gtt_gt {x y : Int32} (h : y < x) : y < x := h
theorem br_gtf_gt {x y : Int32} (h : ¬ y < x) : ¬ y < x := h
theorem br_gtt_le {x y : Int32} (h : y < x) : ¬ x ≤ y := by rw [i_lt] at h; rw [i_le]; omega
theorem br_gtf_le {x y : Int32} (h : ¬ y < x) : x ≤ y := by rw [i_lt] at h; rw [i_le]; omega
theorem br_let_le {x y : Int32} (h : x ≤ y) : x ≤ y := h
theorem br_lef_le {x y : Int32} (h : ¬ x ≤ y) : ¬ x ≤ y := h
theorem br_let_gt {x y : Int32} (h : x ≤ y) : ¬ y < x := by rw [i_le] at h; rw [i_lt]; omega
theorem br_lef_gt {x y : Int32} (h : ¬ x ≤ y) : y < x := by rw [i_le] at h; rw [i_lt]; omega
theorem br_eqt_eq {x y : Int32} (h : x = y) : x = y := h
theorem br_eqf_eq {x y : Int32} (h : ¬ x = y) : ¬ x = y := h
theorem br_eqt_ne {x y : Int32} (h : x = y) : x = y := h
theorem br_eqf_ne {x y : Int32} (h : ¬ x = y) : ¬ x = y := h
theorem br_net_ne {x y : Int32} (h : ¬ x = y) : ¬ x = y := h
theorem br_nef_ne {x y : Int32} (h : x = y) : x = y := h
theorem br_net_eq {x y : Int32} (h : ¬ x = y) : ¬ x = y := h
theorem br_nef_eq {x y : Int32} (h : x = y) : x = y := h
theorem ite_two {c : Prop} [Decidable c] {α : Type} {r a b : α} (h : r = if c then a else b) : (c ∧ r = a) ∨ (¬ c ∧ r = b) := by
  by_cases hc : c
  · rw [if_pos hc] at h; exact Or.inl ⟨hc, h⟩
  · rw [if_neg hc] at h; exact Or.inr ⟨hc, h⟩
theorem zupd {g : Nat → Int32} {n k : Nat} {x : Int32} (hg : ∀ j, j < n → g j = 0) (hx : x = 0) : ∀ j, j < n → upd g k x j = 0 := fun j hj => by
  by_cases h : j = k
  · subst h; rw [pk_us]; exact hx
  · rw [pk_un h]; exact hg j hj
theorem sw_2 (x : Int32) : (x.toInt < 0 ∨ 1 < x.toInt) ∨ x = 0 ∨ x = 1 := by
  simp only [i_eq]; have h0 : (0 : Int32).toInt = 0 := rfl; have h1 : (1 : Int32).toInt = 1 := rfl; omega
theorem sw_3 (x : Int32) : (x.toInt < 0 ∨ 2 < x.toInt) ∨ x = 0 ∨ x = 1 ∨ x = 2 := by
  simp only [i_eq]; have h0 : (0 : Int32).toInt = 0 := rfl; have h1 : (1 : Int32).toInt = 1 := rfl; have h2 : (2 : Int32).toInt = 2 := rfl; omega
theorem sw_6 (x : Int32) : (x.toInt < 0 ∨ 5 < x.toInt) ∨ x = 0 ∨ x = 1 ∨ x = 2 ∨ x = 3 ∨ x = 4 ∨ x = 5 := by
  simp only [i_eq]; have h0 : (0 : Int32).toInt = 0 := rfl; have h1 : (1 : Int32).toInt = 1 := rfl; have h2 : (2 : Int32).toInt = 2 := rfl; have h3 : (3 : Int32).toInt = 3 := rfl; have h4 : (4 : Int32).toInt = 4 := rfl; have h5 : (5 : Int32).toInt = 5 := rfl; omega
theorem sw_28 (x : Int32) : (x.toInt < 0 ∨ 27 < x.toInt) ∨ x = 0 ∨ x = 1 ∨ x = 2 ∨ x = 3 ∨ x = 4 ∨ x = 5 ∨ x = 6 ∨ x = 7 ∨ x = 8 ∨ x = 9 ∨ x = 10 ∨ x = 11 ∨ x = 12 ∨ x = 13 ∨ x = 14 ∨ x = 15 ∨ x = 16 ∨ x = 17 ∨ x = 18 ∨ x = 19 ∨ x = 20 ∨ x = 21 ∨ x = 22 ∨ x = 23 ∨ x = 24 ∨ x = 25 ∨ x = 26 ∨ x = 27 := by
  simp only [i_eq]; have h0 : (0 : Int32).toInt = 0 := rfl; have h1 : (1 : Int32).toInt = 1 := rfl; have h2 : (2 : Int32).toInt = 2 := rfl; have h3 : (3 : Int32).toInt = 3 := rfl; have h4 : (4 : Int32).toInt = 4 := rfl; have h5 : (5 : Int32).toInt = 5 := rfl; have h6 : (6 : Int32).toInt = 6 := rfl; have h7 : (7 : Int32).toInt = 7 := rfl; have h8 : (8 : Int32).toInt = 8 := rfl; have h9 : (9 : Int32).toInt = 9 := rfl; have h10 : (10 : Int32).toInt = 10 := rfl; have h11 : (11 : Int32).toInt = 11 := rfl; have h12 : (12 : Int32).toInt = 12 := rfl; have h13 : (13 : Int32).toInt = 13 := rfl; have h14 : (14 : Int32).toInt = 14 := rfl; have h15 : (15 : Int32).toInt = 15 := rfl; have h16 : (16 : Int32).toInt = 16 := rfl; have h17 : (17 : Int32).toInt = 17 := rfl; have h18 : (18 : Int32).toInt = 18 := rfl; have h19 : (19 : Int32).toInt = 19 := rfl; have h20 : (20 : Int32).toInt = 20 := rfl; have h21 : (21 : Int32).toInt = 21 := rfl; have h22 : (22 : Int32).toInt = 22 := rfl; have h23 : (23 : Int32).toInt = 23 := rfl; have h24 : (24 : Int32).toInt = 24 := rfl; have h25 : (25 : Int32).toInt = 25 := rfl; have h26 : (26 : Int32).toInt = 26 := rfl; have h27 : (27 : Int32).toInt = 27 := rfl; omega
theorem four (x : Int32) (h : 0 ≤ x ∧ x ≤ 3) : x = 0 ∨ x = 1 ∨ x = 2 ∨ x = 3 := by
  simp only [i_eq, i_le] at *; have h0 : (0 : Int32).toInt = 0 := rfl; have h1 : (1 : Int32).toInt = 1 := rfl; have h2 : (2 : Int32).toInt = 2 := rfl; have h3 : (3 : Int32).toInt = 3 := rfl; omega
