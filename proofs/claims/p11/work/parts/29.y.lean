theorem wd_696 : Cond.fieldLink RX11 86 "BowlShelfModel" "op" "[I" ∈ WALL := wl_in (by decide +kernel) (by decide +kernel)
theorem wd_697 : Cond.fieldLink RX11 194 "BowlShelfModel" "codes" "I" ∈ WALL := wl_in (by decide +kernel) (by decide +kernel)
theorem wd_698 : Cond.fieldLink RX11 89 "BowlShelfModel" "arg" "[I" ∈ WALL := wl_in (by decide +kernel) (by decide +kernel)
theorem dX11_emit_0 : decode cX11_emit 0 = .ok (.aload_n 0, 1) := by decide +kernel
theorem dX11_emit_1 : decode cX11_emit 1 = .ok (.getfield 86, 3) := by decide +kernel
theorem dX11_emit_4 : decode cX11_emit 4 = .ok (.sipush 1100, 3) := by decide +kernel
theorem dX11_emit_7 : decode cX11_emit 7 = .ok (.aload_n 0, 1) := by decide +kernel
theorem dX11_emit_8 : decode cX11_emit 8 = .ok (.getfield 194, 3) := by decide +kernel
theorem dX11_emit_11 : decode cX11_emit 11 = .ok (.iadd, 1) := by decide +kernel
theorem dX11_emit_12 : decode cX11_emit 12 = .ok (.iload_n 1, 1) := by decide +kernel
theorem dX11_emit_13 : decode cX11_emit 13 = .ok (.iastore, 1) := by decide +kernel
theorem dX11_emit_14 : decode cX11_emit 14 = .ok (.aload_n 0, 1) := by decide +kernel
theorem dX11_emit_15 : decode cX11_emit 15 = .ok (.getfield 89, 3) := by decide +kernel
theorem dX11_emit_18 : decode cX11_emit 18 = .ok (.sipush 1100, 3) := by decide +kernel
theorem dX11_emit_21 : decode cX11_emit 21 = .ok (.aload_n 0, 1) := by decide +kernel
theorem dX11_emit_22 : decode cX11_emit 22 = .ok (.getfield 194, 3) := by decide +kernel
theorem dX11_emit_25 : decode cX11_emit 25 = .ok (.iadd, 1) := by decide +kernel
theorem dX11_emit_26 : decode cX11_emit 26 = .ok (.iload_n 2, 1) := by decide +kernel
theorem dX11_emit_27 : decode cX11_emit 27 = .ok (.iastore, 1) := by decide +kernel
theorem dX11_emit_28 : decode cX11_emit 28 = .ok (.aload_n 0, 1) := by decide +kernel
theorem dX11_emit_29 : decode cX11_emit 29 = .ok (.dup, 1) := by decide +kernel
theorem dX11_emit_30 : decode cX11_emit 30 = .ok (.getfield 194, 3) := by decide +kernel
theorem dX11_emit_33 : decode cX11_emit 33 = .ok (.iconst 1, 1) := by decide +kernel
theorem dX11_emit_34 : decode cX11_emit 34 = .ok (.iadd, 1) := by decide +kernel
theorem dX11_emit_35 : decode cX11_emit 35 = .ok (.putfield 194, 3) := by decide +kernel
theorem dX11_emit_38 : decode cX11_emit 38 = .ok (.return_, 1) := by decide +kernel
def stp (c a : Int32) (h : Nat) : Option Nat :=
  if c = 1 then some (h + 1) else if c = 2 then (if 0 ≤ a.toInt ∧ a.toInt ≤ 7 then some (h + 1) else none) else if c = 3 then (if 1 ≤ h then some h else none) else if 4 ≤ c.toInt ∧ c.toInt ≤ 10 then (if 2 ≤ h then some (h - 1) else none) else none
def sim (o a : Nat → Int32) : Nat → Nat → Nat → Option Nat
  | 0, _, h => some h
  | n + 1, i, h => (stp (o i) (a i) h).bind (sim o a n (i + 1))
def Fr (n : Nat) (f g : Nat → Int32) : Prop := ∀ j, j < n → g j = f j
def Seg (o a : Nat → Int32) (i j : Nat) : Prop := i ≤ j ∧ ∀ h, sim o a (j - i) i h = some (h + 1)
theorem sim_add (o a : Nat → Int32) (m : Nat) : ∀ n i h, sim o a (n + m) i h = (sim o a n i h).bind (sim o a m (i + n)) := by
  intro n
  induction n with
  | zero => intro i h; rw [Nat.zero_add]; rfl
  | succ n ih =>
    intro i h
    rw [Nat.succ_add]
    show (stp (o i) (a i) h).bind (sim o a (n + m) (i + 1)) = ((stp (o i) (a i) h).bind (sim o a n (i + 1))).bind (sim o a m (i + (n + 1)))
    cases stp (o i) (a i) h with
    | none => rfl
    | some z =>
      show sim o a (n + m) (i + 1) z = (sim o a n (i + 1) z).bind (sim o a m (i + (n + 1)))
      rw [ih (i + 1) z, show i + 1 + n = i + (n + 1) from (by omega)]
theorem sim_s (o a : Nat → Int32) (n i h : Nat) : sim o a (n + 1) i h = (stp (o i) (a i) h).bind (sim o a n (i + 1)) := rfl
theorem sim_z (o a : Nat → Int32) (i h : Nat) : sim o a 0 i h = some h := rfl
theorem sim_congr {o a o' a' : Nat → Int32} {d : Nat} : ∀ n i h, (∀ j, i ≤ j → j < i + n → o' (j + d) = o j ∧ a' (j + d) = a j) → sim o' a' n (i + d) h = sim o a n i h := by
  intro n
  induction n with
  | zero => intro i h _; rw [sim_z, sim_z]
  | succ n ih =>
    intro i h H
    have e3 : sim o' a' n (i + d + 1) = sim o a n (i + 1) := funext fun z => by
      have e4 : i + d + 1 = i + 1 + d := by omega
      rw [e4]
      exact ih (i + 1) z (fun j h1 h2 => H j (by omega) (by omega))
    have e1 := (H i (Nat.le_refl _) (by omega)).1
    have e2 := (H i (Nat.le_refl _) (by omega)).2
    rw [sim_s, sim_s, e1, e2, e3]
theorem Fr.rf {n : Nat} {f : Nat → Int32} : Fr n f f := fun _ _ => rfl
theorem Fr.trans {m n : Nat} {f g k : Nat → Int32} (h1 : Fr m f g) (h2 : Fr n g k) (hn : m ≤ n) : Fr m f k := fun j hj => (h2 j (Nat.lt_of_lt_of_le hj hn)).trans (h1 j hj)
theorem Fr.mono {m n : Nat} {f g : Nat → Int32} (h : Fr n f g) (hm : m ≤ n) : Fr m f g := fun j hj => h j (by omega)
theorem Seg.frame {o a o' a' : Nat → Int32} {i j : Nat} (h : Seg o a i j) (h1 : Fr j o o') (h2 : Fr j a a') : Seg o' a' i j :=
  ⟨h.1, fun z => by rw [← h.2 z]; exact sim_congr (d := 0) _ _ _ (fun t t1 t2 => ⟨h1 t (by have := h.1; omega), h2 t (by have := h.1; omega)⟩)⟩
theorem Seg.cast {o a : Nat → Int32} {i j j' : Nat} (h : Seg o a i j) (e : j = j') : Seg o a i j' := e ▸ h
theorem Seg.num {o a : Nat → Int32} {i : Nat} (h : o i = 1) : Seg o a i (i + 1) := ⟨by omega, fun z => by
  rw [show i + 1 - i = 1 from (by omega)]
  show (stp (o i) (a i) z).bind (sim o a 0 (i + 1)) = _
  rw [h]; rfl⟩
theorem Seg.fct {o a : Nat → Int32} {i : Nat} {x : Int32} (h : o i = 2) (h2 : a i = x) (hx : 0 ≤ x.toInt ∧ x.toInt ≤ 7) : Seg o a i (i + 1) := ⟨by omega, fun z => by
  rw [show i + 1 - i = 1 from (by omega)]
  show (stp (o i) (a i) z).bind (sim o a 0 (i + 1)) = _
  rw [h, h2]
  show (if 0 ≤ x.toInt ∧ x.toInt ≤ 7 then some (z + 1) else none).bind (sim o a 0 (i + 1)) = _
  rw [if_pos hx]; rfl⟩
theorem Seg.neg {o a : Nat → Int32} {i j : Nat} (h : Seg o a i j) (hc : o j = 3) : Seg o a i (j + 1) := ⟨by have := h.1; omega, fun z => by
  have := h.1
  rw [show j + 1 - i = (j - i) + 1 from (by omega), sim_add, h.2 z, show i + (j - i) = j from (by omega)]
  show (stp (o j) (a j) (z + 1)).bind (sim o a 0 (j + 1)) = _
  rw [hc]
  show (if 1 ≤ z + 1 then some (z + 1) else none).bind (sim o a 0 (j + 1)) = _
  rw [if_pos (by omega)]; rfl⟩
theorem stp_bin {c a : Int32} (h : Nat) (hc : 4 ≤ c.toInt ∧ c.toInt ≤ 10) : stp c a h = if 2 ≤ h then some (h - 1) else none := by
  have n1 : ¬ c = 1 := fun e => by rw [e] at hc; exact absurd hc.1 (by decide)
  have n2 : ¬ c = 2 := fun e => by rw [e] at hc; exact absurd hc.1 (by decide)
  have n3 : ¬ c = 3 := fun e => by rw [e] at hc; exact absurd hc.1 (by decide)
  unfold stp; rw [if_neg n1, if_neg n2, if_neg n3, if_pos hc]
theorem Seg.bin {o a : Nat → Int32} {i j k : Nat} {c : Int32} (h : Seg o a i j) (h2 : Seg o a j k) (hc : o k = c) (hc2 : 4 ≤ c.toInt ∧ c.toInt ≤ 10) : Seg o a i (k + 1) := ⟨by have := h.1; have := h2.1; omega, fun z => by
  have g1 := h.1; have g2 := h2.1
  rw [show k + 1 - i = (j - i) + ((k - j) + 1) from (by omega), sim_add, h.2 z, show i + (j - i) = j from (by omega)]
  show sim o a ((k - j) + 1) j (z + 1) = _
  rw [sim_add, h2.2 (z + 1), show j + (k - j) = k from (by omega)]
  show (stp (o k) (a k) (z + 1 + 1)).bind (sim o a 0 (k + 1)) = _
  rw [hc, stp_bin _ hc2, if_pos (by omega)]; rfl⟩
/-- the nests told in the half that is being read -/
def NW (t o a : Nat → Int32) (c : Int) : Prop := ∀ k : Nat, (k : Int) < (t 122).toInt → ∃ e : Nat, Seg o a (1100 + (t (231 + k)).toInt).toNat e ∧ o e = 0 ∧ (e : Int) < 1100 + c
/-- the nests told -/
def WFm (t o a : Nat → Int32) : Prop := ∀ k : Nat, (k : Int) < (t 2).toInt → ∃ e : Nat, Seg o a (t (111 + k)).toInt.toNat e ∧ o e = 0 ∧ e < 1100
theorem NW.frame {t o a t' o' a' : Nat → Int32} {c c' : Int} (h : NW t o a c) (ht : ∀ j, (j < 120 ∨ j = 122 ∨ 231 ≤ j) → t' j = t j) (hc : c ≤ c') (ho : Fr (1100 + c).toNat o o') (ha : Fr (1100 + c).toNat a a') : NW t' o' a' c' := fun k hk => by
  rw [ht 122 (Or.inr (Or.inl rfl))] at hk
  obtain ⟨e, h1, h2, h3⟩ := h k hk
  refine ⟨e, ?_, ?_, by omega⟩
  · rw [ht (231 + k) (Or.inr (Or.inr (by omega)))]
    exact h1.frame (fun j hj => ho j (by omega)) (fun j hj => ha j (by omega))
  · rw [ho e (by omega)]; exact h2
theorem NW.more {t o a t' o' a' : Nat → Int32} {c c' : Int} {e : Nat} (h : NW t o a c) (h4 : 0 ≤ (t 122).toInt) (hn : (t' 122).toInt = (t 122).toInt + 1) (ht : ∀ k : Nat, (k : Int) < (t 122).toInt → t' (231 + k) = t (231 + k)) (hs : Seg o' a' (1100 + (t' (231 + (t 122).toInt.toNat)).toInt).toNat e) (h0 : o' e = 0) (he : (e : Int) < 1100 + c') (hc : c ≤ c') (ho : Fr (1100 + c).toNat o o') (ha : Fr (1100 + c).toNat a a') : NW t' o' a' c' := fun k hk => by
  rw [hn] at hk
  rcases Int.lt_or_le (k : Int) (t 122).toInt with q | q
  · obtain ⟨e, h1, h2, h3⟩ := h k q
    refine ⟨e, ?_, ?_, by omega⟩
    · rw [ht k q]; exact h1.frame (fun j hj => ho j (by omega)) (fun j hj => ha j (by omega))
    · rw [ho e (by omega)]; exact h2
  · have e1 : k = (t 122).toInt.toNat := by omega
    rw [e1]; exact ⟨e, hs, h0, he⟩
set_option maxHeartbeats 4000000 in
set_option maxRecDepth 100000 in
theorem c_X11_emit (l : Launch) (D : DG) (cyC cyI cyJ cyZ cyO : ClassId) (m0 : Nat) (mop : Nat) (marg : Nat) (mtape : Nat) (msort : Nat) (mplace : Nat) (mvalue : Nat) (mwords : Nat) (mtold : Nat) (mnames : Nat) (mhasHabit : Nat) (mfactWords : Nat) (mfacts : Nat) (mpile : Nat) (mstates : Nat) (misMarked : Nat) (mrow : Nat) (mthr : Nat) (mmays : Nat) (mtall : Nat) (mweights : Nat) (mrowOfWare : Nat) (mneededOf : Nat) (mtried : Nat) (mbestRow : Nat) (mdigits : Nat) (p0 : Int32) (p1 : Int32) (m_thrown : Int32) (m_taped : Int32) (m_size : Int32) (m_at : Int32) (m_fault : Int32) (m_codes : Int32) (m_isNew : Int32) (m_inShelf : Int32) (m_inStack : Int32) (m_inPlace : Int32) (m_rowMany : Int32) (m_goShelf : Int32) (m_goStack : Int32) (m_goLeft : Int32) (m_bestCost : Int32) (m_bestMany : Int32) (m_bestShelf : Int32) (m_bestSet : Int32) (m_op : Nat → Int32) (m_arg : Nat → Int32) (h_m_taped : 0 ≤ (m_taped).toInt ∧ (m_taped).toInt ≤ 1000) (h_m_size : 0 ≤ (m_size).toInt ∧ (m_size).toInt ≤ 1000) (h_m_at : 0 ≤ (m_at).toInt ∧ (m_at).toInt ≤ 1000) (h_m_fault : 0 ≤ (m_fault).toInt ∧ (m_fault).toInt ≤ 16005) (h_m_codes : 0 ≤ (m_codes).toInt ∧ (m_codes).toInt ≤ 999) (h_m_isNew : 0 ≤ (m_isNew).toInt ∧ (m_isNew).toInt ≤ 1) (h_m_inShelf : 0 ≤ (m_inShelf).toInt ∧ (m_inShelf).toInt ≤ 3) (h_m_inStack : 0 ≤ (m_inStack).toInt ∧ (m_inStack).toInt ≤ 7) (h_m_inPlace : 0 ≤ (m_inPlace).toInt ∧ (m_inPlace).toInt ≤ 11) (h_m_rowMany : 0 ≤ (m_rowMany).toInt ∧ (m_rowMany).toInt ≤ 12) (h_m_goShelf : -1 ≤ (m_goShelf).toInt ∧ (m_goShelf).toInt ≤ 3) (h_m_bestMany : 0 ≤ (m_bestMany).toInt ∧ (m_bestMany).toInt ≤ 7) (h_m_bestShelf : 0 ≤ (m_bestShelf).toInt ∧ (m_bestShelf).toInt ≤ 3) : KK l D (TY cyC cyI cyJ cyZ cyO) yX11_emit cX11_emit 3 none ({ frames := 0, cells := 0, slots := 0, locals := 0 } : Room) 0 0 [.ref m0, .int p0, .int p1] [(m0, .inr (11, [.int m_thrown, .ref mtape, .int m_taped, .int m_size, .ref msort, .ref mplace, .ref mvalue, .int m_at, .int m_fault, .ref mwords, .ref mtold, .ref mop, .ref marg, .int m_codes, .ref mnames, .ref mhasHabit, .int m_isNew, .ref mfactWords, .ref mfacts, .ref mpile, .ref mstates, .ref misMarked, .int m_inShelf, .int m_inStack, .int m_inPlace, .ref mrow, .int m_rowMany, .ref mthr, .ref mmays, .ref mtall, .ref mweights, .ref mrowOfWare, .ref mneededOf, .int m_goShelf, .int m_goStack, .int m_goLeft, .ref mtried, .ref mbestRow, .int m_bestCost, .int m_bestMany, .int m_bestShelf, .int m_bestSet, .ref mdigits])), (mop, .inl (cyI, 2200, .inl m_op)), (marg, .inl (cyI, 2200, .inl m_arg))] (fun u => none) (fun u => (1 ≤ (u.2.1 0).toInt ∧ (u.2.1 0).toInt ≤ 1000) ∧ (((u.2.1 0)).toInt = (m_codes).toInt + 1) ∧ (Fr (1100 + (m_codes).toInt).toNat m_op (u.2.2.1 0)) ∧ (Fr (1100 + (m_codes).toInt).toNat m_arg (u.2.2.1 1)) ∧ ((u.2.2.1 0) (1100 + (m_codes).toInt).toNat = p0) ∧ ((u.2.2.1 1) (1100 + (m_codes).toInt).toNat = p1)) (fun u => [(m0, .inr (11, [.int m_thrown, .ref mtape, .int m_taped, .int m_size, .ref msort, .ref mplace, .ref mvalue, .int m_at, .int m_fault, .ref mwords, .ref mtold, .ref mop, .ref marg, .int (u.2.1 0), .ref mnames, .ref mhasHabit, .int m_isNew, .ref mfactWords, .ref mfacts, .ref mpile, .ref mstates, .ref misMarked, .int m_inShelf, .int m_inStack, .int m_inPlace, .ref mrow, .int m_rowMany, .ref mthr, .ref mmays, .ref mtall, .ref mweights, .ref mrowOfWare, .ref mneededOf, .int m_goShelf, .int m_goStack, .int m_goLeft, .ref mtried, .ref mbestRow, .int m_bestCost, .int m_bestMany, .int m_bestShelf, .int m_bestSet, .ref mdigits])), (mop, .inl (cyI, 2200, .inl (u.2.2.1 0))), (marg, .inl (cyI, 2200, .inl (u.2.2.1 1)))]) := by
  refine KK.of (lv0 := [(0, .ref m0), (1, .int p0), (2, .int p1)]) (by decide) rfl (Nat.le_of_ble_eq_true rfl) ?_
  intro p e s m args below meth c A C hr hk hin
  refine j_aload_n (pc := 0) C dX11_emit_0 rfl 0 rfl ?_
  refine j_get (pc := 1) (ci := 11) (v := .ref mop) C inw_11 0 rfl rfl 11 (by decide) wd_696 rfl rfl dX11_emit_1 ?_
  refine j_sipush (pc := 4) (v := 1100) C dX11_emit_4 (by decide) ?_
  refine j_aload_n (pc := 7) C dX11_emit_7 rfl 0 rfl ?_
  refine j_get (pc := 8) (ci := 11) (v := .int m_codes) C inw_11 0 rfl rfl 13 (by decide) wd_697 rfl rfl dX11_emit_8 ?_
  obtain ⟨v_1, ev_1⟩ : ∃ z : Int32, 1100 + m_codes = z := ⟨_, rfl⟩
  have el_1100 : (1100 : Int32).toInt = 1100 := rfl
  have hv_1 : v_1.toInt = (1100 : Int32).toInt + m_codes.toInt := by rw [← ev_1]; exact fb_addI (by omega) (by omega)
  refine j_iadd (pc := 11) (v := v_1) C dX11_emit_11 ev_1 ?_
  refine j_iload_n (pc := 12) C dX11_emit_12 rfl 1 rfl ?_
  obtain ⟨f_2, ef_2⟩ : ∃ z, z = upd m_op (v_1).toInt.toNat p0 := ⟨_, rfl⟩
  refine j_iast (pc := 13) (k := (v_1).toInt.toNat) (ws' := [(m0, .inr (11, [.int m_thrown, .ref mtape, .int m_taped, .int m_size, .ref msort, .ref mplace, .ref mvalue, .int m_at, .int m_fault, .ref mwords, .ref mtold, .ref mop, .ref marg, .int m_codes, .ref mnames, .ref mhasHabit, .int m_isNew, .ref mfactWords, .ref mfacts, .ref mpile, .ref mstates, .ref misMarked, .int m_inShelf, .int m_inStack, .int m_inPlace, .ref mrow, .int m_rowMany, .ref mthr, .ref mmays, .ref mtall, .ref mweights, .ref mrowOfWare, .ref mneededOf, .int m_goShelf, .int m_goStack, .int m_goLeft, .ref mtried, .ref mbestRow, .int m_bestCost, .int m_bestMany, .int m_bestShelf, .int m_bestSet, .ref mdigits])), (mop, .inl (cyI, 2200, .inl f_2)), (marg, .inl (cyI, 2200, .inl m_arg))]) C 1 1 rfl rfl (i_nn (by omega)) rfl (i_lt_n (by omega) (by omega)) dX11_emit_13 (by rw [ef_2]; rfl) ?_
  refine j_aload_n (pc := 14) C dX11_emit_14 rfl 0 rfl ?_
  refine j_get (pc := 15) (ci := 11) (v := .ref marg) C inw_11 0 rfl rfl 12 (by decide) wd_698 rfl rfl dX11_emit_15 ?_
  refine j_sipush (pc := 18) (v := 1100) C dX11_emit_18 (by decide) ?_
  refine j_aload_n (pc := 21) C dX11_emit_21 rfl 0 rfl ?_
  refine j_get (pc := 22) (ci := 11) (v := .int m_codes) C inw_11 0 rfl rfl 13 (by decide) wd_697 rfl rfl dX11_emit_22 ?_
  obtain ⟨v_3, ev_3⟩ : ∃ z : Int32, 1100 + m_codes = z := ⟨_, rfl⟩
  have el_1100 : (1100 : Int32).toInt = 1100 := rfl
  have hv_3 : v_3.toInt = (1100 : Int32).toInt + m_codes.toInt := by rw [← ev_3]; exact fb_addI (by omega) (by omega)
  refine j_iadd (pc := 25) (v := v_3) C dX11_emit_25 ev_3 ?_
  refine j_iload_n (pc := 26) C dX11_emit_26 rfl 2 rfl ?_
  obtain ⟨f_4, ef_4⟩ : ∃ z, z = upd m_arg (v_3).toInt.toNat p1 := ⟨_, rfl⟩
  refine j_iast (pc := 27) (k := (v_3).toInt.toNat) (ws' := [(m0, .inr (11, [.int m_thrown, .ref mtape, .int m_taped, .int m_size, .ref msort, .ref mplace, .ref mvalue, .int m_at, .int m_fault, .ref mwords, .ref mtold, .ref mop, .ref marg, .int m_codes, .ref mnames, .ref mhasHabit, .int m_isNew, .ref mfactWords, .ref mfacts, .ref mpile, .ref mstates, .ref misMarked, .int m_inShelf, .int m_inStack, .int m_inPlace, .ref mrow, .int m_rowMany, .ref mthr, .ref mmays, .ref mtall, .ref mweights, .ref mrowOfWare, .ref mneededOf, .int m_goShelf, .int m_goStack, .int m_goLeft, .ref mtried, .ref mbestRow, .int m_bestCost, .int m_bestMany, .int m_bestShelf, .int m_bestSet, .ref mdigits])), (mop, .inl (cyI, 2200, .inl f_2)), (marg, .inl (cyI, 2200, .inl f_4))]) C 2 1 rfl rfl (i_nn (by omega)) rfl (i_lt_n (by omega) (by omega)) dX11_emit_27 (by rw [ef_4]; rfl) ?_
  refine j_aload_n (pc := 28) C dX11_emit_28 rfl 0 rfl ?_
  refine j_dup (pc := 29) C dX11_emit_29 rfl ?_
  refine j_get (pc := 30) (ci := 11) (v := .int m_codes) C inw_11 0 rfl rfl 13 (by decide) wd_697 rfl rfl dX11_emit_30 ?_
  refine j_iconst (pc := 33) (v := 1) C dX11_emit_33 (by decide) ?_
  obtain ⟨v_5, ev_5⟩ : ∃ z : Int32, m_codes + 1 = z := ⟨_, rfl⟩
  have el_1 : (1 : Int32).toInt = 1 := rfl
  have hv_5 : v_5.toInt = m_codes.toInt + (1 : Int32).toInt := by rw [← ev_5]; exact fb_addI (by omega) (by omega)
  refine j_iadd (pc := 34) (v := v_5) C dX11_emit_34 ev_5 ?_
  refine j_put (pc := 35) (ci := 11) (v := .int v_5) (ws' := [(m0, .inr (11, [.int m_thrown, .ref mtape, .int m_taped, .int m_size, .ref msort, .ref mplace, .ref mvalue, .int m_at, .int m_fault, .ref mwords, .ref mtold, .ref mop, .ref marg, .int v_5, .ref mnames, .ref mhasHabit, .int m_isNew, .ref mfactWords, .ref mfacts, .ref mpile, .ref mstates, .ref misMarked, .int m_inShelf, .int m_inStack, .int m_inPlace, .ref mrow, .int m_rowMany, .ref mthr, .ref mmays, .ref mtall, .ref mweights, .ref mrowOfWare, .ref mneededOf, .int m_goShelf, .int m_goStack, .int m_goLeft, .ref mtried, .ref mbestRow, .int m_bestCost, .int m_bestMany, .int m_bestShelf, .int m_bestSet, .ref mdigits])), (mop, .inl (cyI, 2200, .inl f_2)), (marg, .inl (cyI, 2200, .inl f_4))]) C inw_11 0 rfl rfl 13 (by decide) wd_697 rfl tyX11_ok nmX11 rfl (tyX11_ok 13 (by decide)) rfl rfl (Nat.le_of_ble_eq_true rfl) dX11_emit_35 rfl ?_
  exact j_vret (pc := 38) C hr hk (fun i => [].getD i 0, fun i => [v_5].getD i 0, fun i => [f_2, f_4].getD i (fun _ => 0), fun i => [].getD i (fun _ => 0)) rfl (show (1 ≤ (v_5).toInt ∧ (v_5).toInt ≤ 1000) ∧ ((v_5).toInt = (m_codes).toInt + 1) ∧ (Fr (1100 + (m_codes).toInt).toNat m_op f_2) ∧ (Fr (1100 + (m_codes).toInt).toNat m_arg f_4) ∧ (f_2 (1100 + (m_codes).toInt).toNat = p0) ∧ (f_4 (1100 + (m_codes).toInt).toNat = p1) from ⟨by omega, by omega, (fun j hj => by rw [ef_2, pk_un (show ¬ j = (v_1).toInt.toNat from (by omega))]), (fun j hj => by rw [ef_4, pk_un (show ¬ j = (v_3).toInt.toNat from (by omega))]), (by rw [ef_2, show (1100 + (m_codes).toInt).toNat = (v_1).toInt.toNat from (by omega), pk_us]), (by rw [ef_4, show (1100 + (m_codes).toInt).toNat = (v_3).toInt.toNat from (by omega), pk_us])⟩) [0, 1, 2] (by decide) rfl (by decide) (by decide) dX11_emit_38
