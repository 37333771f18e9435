theorem wd_861 : Cond.fieldLink RX11 111 "BowlShelfModel" "isMarked" "[Z" ∈ WALL := wl_in (by decide +kernel) (by decide +kernel)
theorem wd_862 : Cond.code yX11_copies cX11_copies 4 none ∈ WALL := wl_in (by decide +kernel) (by decide +kernel)
theorem wd_863 : Cond.methodLink RX11 395 yX11_copies ∈ WALL := wl_in (by decide +kernel) (by decide +kernel)
theorem wd_864 : Cond.instanceMethod yX11_copies ∈ WALL := wl_in (by decide +kernel) (by decide +kernel)
theorem wd_865 : Cond.selects RX11 yX11_copies yX11_copies ∈ WALL := wl_in (by decide +kernel) (by decide +kernel)
theorem dX11_copies_0 : decode cX11_copies 0 = .ok (.iconst 0, 1) := by decide +kernel
theorem dX11_copies_1 : decode cX11_copies 1 = .ok (.istore_n 3, 1) := by decide +kernel
theorem dX11_copies_2 : decode cX11_copies 2 = .ok (.iload_n 3, 1) := by decide +kernel
theorem dX11_copies_3 : decode cX11_copies 3 = .ok (.sipush 460, 3) := by decide +kernel
theorem dX11_copies_6 : decode cX11_copies 6 = .ok (.if_icmp .ge 33, 3) := by decide +kernel
theorem dX11_copies_9 : decode cX11_copies 9 = .ok (.aload_n 0, 1) := by decide +kernel
theorem dX11_copies_10 : decode cX11_copies 10 = .ok (.getfield 108, 3) := by decide +kernel
theorem dX11_copies_13 : decode cX11_copies 13 = .ok (.sipush 460, 3) := by decide +kernel
theorem dX11_copies_16 : decode cX11_copies 16 = .ok (.iload_n 2, 1) := by decide +kernel
theorem dX11_copies_17 : decode cX11_copies 17 = .ok (.imul, 1) := by decide +kernel
theorem dX11_copies_18 : decode cX11_copies 18 = .ok (.iload_n 3, 1) := by decide +kernel
theorem dX11_copies_19 : decode cX11_copies 19 = .ok (.iadd, 1) := by decide +kernel
theorem dX11_copies_20 : decode cX11_copies 20 = .ok (.aload_n 0, 1) := by decide +kernel
theorem dX11_copies_21 : decode cX11_copies 21 = .ok (.getfield 108, 3) := by decide +kernel
theorem dX11_copies_24 : decode cX11_copies 24 = .ok (.sipush 460, 3) := by decide +kernel
theorem dX11_copies_27 : decode cX11_copies 27 = .ok (.iload_n 1, 1) := by decide +kernel
theorem dX11_copies_28 : decode cX11_copies 28 = .ok (.imul, 1) := by decide +kernel
theorem dX11_copies_29 : decode cX11_copies 29 = .ok (.iload_n 3, 1) := by decide +kernel
theorem dX11_copies_30 : decode cX11_copies 30 = .ok (.iadd, 1) := by decide +kernel
theorem dX11_copies_31 : decode cX11_copies 31 = .ok (.iaload, 1) := by decide +kernel
theorem dX11_copies_32 : decode cX11_copies 32 = .ok (.iastore, 1) := by decide +kernel
theorem dX11_copies_33 : decode cX11_copies 33 = .ok (.iinc 3 1, 3) := by decide +kernel
theorem dX11_copies_36 : decode cX11_copies 36 = .ok (.goto (-34), 3) := by decide +kernel
theorem dX11_copies_39 : decode cX11_copies 39 = .ok (.return_, 1) := by decide +kernel
theorem dX11_mark_0 : decode cX11_mark 0 = .ok (.aload_n 0, 1) := by decide +kernel
theorem dX11_mark_1 : decode cX11_mark 1 = .ok (.iconst 0, 1) := by decide +kernel
theorem dX11_mark_2 : decode cX11_mark 2 = .ok (.putfield 1, 3) := by decide +kernel
theorem dX11_mark_5 : decode cX11_mark 5 = .ok (.iload_n 1, 1) := by decide +kernel
theorem dX11_mark_6 : decode cX11_mark 6 = .ok (.iconst 0, 1) := by decide +kernel
theorem dX11_mark_7 : decode cX11_mark 7 = .ok (.iconst 3, 1) := by decide +kernel
theorem dX11_mark_8 : decode cX11_mark 8 = .ok (.invokestatic 280, 3) := by decide +kernel
theorem dX11_mark_11 : decode cX11_mark 11 = .ok (.ifCond .eq 16, 3) := by decide +kernel
theorem dX11_mark_14 : decode cX11_mark 14 = .ok (.iload_n 2, 1) := by decide +kernel
theorem dX11_mark_15 : decode cX11_mark 15 = .ok (.ifCond .eq 14, 3) := by decide +kernel
theorem dX11_mark_18 : decode cX11_mark 18 = .ok (.aload_n 0, 1) := by decide +kernel
theorem dX11_mark_19 : decode cX11_mark 19 = .ok (.getfield 111, 3) := by decide +kernel
theorem dX11_mark_22 : decode cX11_mark 22 = .ok (.iload_n 1, 1) := by decide +kernel
theorem dX11_mark_23 : decode cX11_mark 23 = .ok (.baload, 1) := by decide +kernel
theorem dX11_mark_24 : decode cX11_mark 24 = .ok (.ifCond .ne 5, 3) := by decide +kernel
theorem dX11_mark_27 : decode cX11_mark 27 = .ok (.iconst 0, 1) := by decide +kernel
theorem dX11_mark_28 : decode cX11_mark 28 = .ok (.ireturn, 1) := by decide +kernel
theorem dX11_mark_29 : decode cX11_mark 29 = .ok (.aload_n 0, 1) := by decide +kernel
theorem dX11_mark_30 : decode cX11_mark 30 = .ok (.getfield 111, 3) := by decide +kernel
theorem dX11_mark_33 : decode cX11_mark 33 = .ok (.iload_n 1, 1) := by decide +kernel
theorem dX11_mark_34 : decode cX11_mark 34 = .ok (.iconst 1, 1) := by decide +kernel
theorem dX11_mark_35 : decode cX11_mark 35 = .ok (.bastore, 1) := by decide +kernel
theorem dX11_mark_36 : decode cX11_mark 36 = .ok (.aload_n 0, 1) := by decide +kernel
theorem dX11_mark_37 : decode cX11_mark 37 = .ok (.iload_n 2, 1) := by decide +kernel
theorem dX11_mark_38 : decode cX11_mark 38 = .ok (.ifCond .eq 9, 3) := by decide +kernel
theorem dX11_mark_41 : decode cX11_mark 41 = .ok (.iconst 2, 1) := by decide +kernel
theorem dX11_mark_42 : decode cX11_mark 42 = .ok (.iload_n 1, 1) := by decide +kernel
theorem dX11_mark_43 : decode cX11_mark 43 = .ok (.iadd, 1) := by decide +kernel
theorem dX11_mark_44 : decode cX11_mark 44 = .ok (.goto 4, 3) := by decide +kernel
theorem dX11_mark_47 : decode cX11_mark 47 = .ok (.iconst 0, 1) := by decide +kernel
theorem dX11_mark_48 : decode cX11_mark 48 = .ok (.iload_n 2, 1) := by decide +kernel
theorem dX11_mark_49 : decode cX11_mark 49 = .ok (.ifCond .eq 7, 3) := by decide +kernel
theorem dX11_mark_52 : decode cX11_mark 52 = .ok (.iconst 0, 1) := by decide +kernel
theorem dX11_mark_53 : decode cX11_mark 53 = .ok (.goto 6, 3) := by decide +kernel
theorem dX11_mark_56 : decode cX11_mark 56 = .ok (.iconst 2, 1) := by decide +kernel
theorem dX11_mark_57 : decode cX11_mark 57 = .ok (.iload_n 1, 1) := by decide +kernel
theorem dX11_mark_58 : decode cX11_mark 58 = .ok (.iadd, 1) := by decide +kernel
theorem dX11_mark_59 : decode cX11_mark 59 = .ok (.invokevirtual 395, 3) := by decide +kernel
theorem dX11_mark_62 : decode cX11_mark 62 = .ok (.iconst 1, 1) := by decide +kernel
theorem dX11_mark_63 : decode cX11_mark 63 = .ok (.ireturn, 1) := by decide +kernel
theorem dX11_ask_0 : decode cX11_ask 0 = .ok (.aload_n 0, 1) := by decide +kernel
theorem dX11_ask_1 : decode cX11_ask 1 = .ok (.iconst 0, 1) := by decide +kernel
theorem dX11_ask_2 : decode cX11_ask 2 = .ok (.putfield 1, 3) := by decide +kernel
theorem dX11_ask_5 : decode cX11_ask 5 = .ok (.aload_n 0, 1) := by decide +kernel
theorem dX11_ask_6 : decode cX11_ask 6 = .ok (.iload_n 1, 1) := by decide +kernel
theorem dX11_ask_7 : decode cX11_ask 7 = .ok (.invokevirtual 277, 3) := by decide +kernel
theorem dX11_ask_10 : decode cX11_ask 10 = .ok (.ifCond .eq 12, 3) := by decide +kernel
theorem dX11_ask_13 : decode cX11_ask 13 = .ok (.aload_n 0, 1) := by decide +kernel
theorem dX11_ask_14 : decode cX11_ask 14 = .ok (.invokevirtual 410, 3) := by decide +kernel
theorem dX11_ask_17 : decode cX11_ask 17 = .ok (.bipush 30, 2) := by decide +kernel
theorem dX11_ask_19 : decode cX11_ask 19 = .ok (.if_icmp .ne 5, 3) := by decide +kernel
theorem dX11_ask_22 : decode cX11_ask 22 = .ok (.iconst (-1), 1) := by decide +kernel
theorem dX11_ask_23 : decode cX11_ask 23 = .ok (.ireturn, 1) := by decide +kernel
theorem dX11_ask_24 : decode cX11_ask 24 = .ok (.aload_n 0, 1) := by decide +kernel
theorem dX11_ask_25 : decode cX11_ask 25 = .ok (.getfield 108, 3) := by decide +kernel
theorem dX11_ask_28 : decode cX11_ask 28 = .ok (.sipush 422, 3) := by decide +kernel
theorem dX11_ask_31 : decode cX11_ask 31 = .ok (.aload_n 0, 1) := by decide +kernel
theorem dX11_ask_32 : decode cX11_ask 32 = .ok (.invokevirtual 410, 3) := by decide +kernel
theorem dX11_ask_35 : decode cX11_ask 35 = .ok (.iadd, 1) := by decide +kernel
theorem dX11_ask_36 : decode cX11_ask 36 = .ok (.iload_n 1, 1) := by decide +kernel
theorem dX11_ask_37 : decode cX11_ask 37 = .ok (.iastore, 1) := by decide +kernel
theorem dX11_ask_38 : decode cX11_ask 38 = .ok (.aload_n 0, 1) := by decide +kernel
theorem dX11_ask_39 : decode cX11_ask 39 = .ok (.getfield 108, 3) := by decide +kernel
theorem dX11_ask_42 : decode cX11_ask 42 = .ok (.sipush 421, 3) := by decide +kernel
theorem dX11_ask_45 : decode cX11_ask 45 = .ok (.dup2, 1) := by decide +kernel
theorem dX11_ask_46 : decode cX11_ask 46 = .ok (.iaload, 1) := by decide +kernel
theorem dX11_ask_47 : decode cX11_ask 47 = .ok (.iconst 1, 1) := by decide +kernel
theorem dX11_ask_48 : decode cX11_ask 48 = .ok (.iadd, 1) := by decide +kernel
theorem dX11_ask_49 : decode cX11_ask 49 = .ok (.iastore, 1) := by decide +kernel
theorem dX11_ask_50 : decode cX11_ask 50 = .ok (.aload_n 0, 1) := by decide +kernel
theorem dX11_ask_51 : decode cX11_ask 51 = .ok (.invokevirtual 410, 3) := by decide +kernel
theorem dX11_ask_54 : decode cX11_ask 54 = .ok (.ireturn, 1) := by decide +kernel
theorem dX11_clear_0 : decode cX11_clear 0 = .ok (.aload_n 0, 1) := by decide +kernel
theorem dX11_clear_1 : decode cX11_clear 1 = .ok (.iconst 0, 1) := by decide +kernel
theorem dX11_clear_2 : decode cX11_clear 2 = .ok (.putfield 1, 3) := by decide +kernel
theorem dX11_clear_5 : decode cX11_clear 5 = .ok (.aload_n 0, 1) := by decide +kernel
theorem dX11_clear_6 : decode cX11_clear 6 = .ok (.getfield 108, 3) := by decide +kernel
theorem dX11_clear_9 : decode cX11_clear 9 = .ok (.sipush 421, 3) := by decide +kernel
theorem dX11_clear_12 : decode cX11_clear 12 = .ok (.iconst 0, 1) := by decide +kernel
theorem dX11_clear_13 : decode cX11_clear 13 = .ok (.iastore, 1) := by decide +kernel
theorem dX11_clear_14 : decode cX11_clear 14 = .ok (.iconst 1, 1) := by decide +kernel
theorem dX11_clear_15 : decode cX11_clear 15 = .ok (.ireturn, 1) := by decide +kernel
theorem SV.cp {f : Nat → Int32} (h : SV f) {a b k i j : Nat} (ha : a < 6) (hk : k < 460) (hi : i = 460 * a + k) (hj : j = 460 * b + k) {x : Int32} (hx : f i = x) : SV (upd f j x) := h.wr (by
  by_cases e : k = 420
  · left; omega
  · right
    have h1 := h i (by omega) (by omega)
    have e1 : i % 460 = k := by omega
    have e2 : j % 460 = k := by omega
    have e3 : hiS j = hiS i := by unfold hiS; rw [e1, e2]
    rw [e3, ← hx]; exact h1)
theorem DU.copy {f g : Nat → Int32} (h : DU f) {a b : Nat} (ha : a < 6) (hin : ∀ i : Nat, i < 460 → g (460 * b + i) = f (460 * a + i)) (hout : ∀ j : Nat, (j < 460 * b ∨ 460 * b + 460 ≤ j) → g j = f j) : DU g := by
  intro j hj
  obtain ⟨c, s, t, h1, h2, h3, h4⟩ := hj
  have ej : j = 460 * c + 105 * s + 1 + 13 * t := by omega
  by_cases e : c = b
  · subst e
    have he : ∀ r : Nat, r < 13 → g (j + r) = f (460 * a + 105 * s + 1 + 13 * t + r) := fun r hr => by
      have := hin (105 * s + 1 + 13 * t + r) (by omega)
      rw [show j + r = 460 * c + (105 * s + 1 + 13 * t + r) from (by omega), this, show 460 * a + (105 * s + 1 + 13 * t + r) = 460 * a + 105 * s + 1 + 13 * t + r from (by omega)]
    intro p q q1 q2 q3
    have e0 := he 0 (by omega)
    rw [show j + 0 = j from rfl, show 460 * a + 105 * s + 1 + 13 * t + 0 = 460 * a + 105 * s + 1 + 13 * t from rfl] at e0
    rw [e0] at q3
    rw [show j + 1 + p = j + (1 + p) from (by omega), show j + 1 + q = j + (1 + q) from (by omega), he (1 + p) (by omega), he (1 + q) (by omega)]
    have := h (460 * a + 105 * s + 1 + 13 * t) ⟨a, s, t, ha, h2, h3, by omega⟩ p q q1 q2 q3
    rw [show 460 * a + 105 * s + 1 + 13 * t + (1 + p) = 460 * a + 105 * s + 1 + 13 * t + 1 + p from (by omega), show 460 * a + 105 * s + 1 + 13 * t + (1 + q) = 460 * a + 105 * s + 1 + 13 * t + 1 + q from (by omega)]
    exact this
  · intro p q q1 q2 q3
    have q9 : q < 12 := q2
    rw [hout j (by omega)] at q3
    rw [hout (j + 1 + p) (by omega), hout (j + 1 + q) (by omega)]
    exact h j ⟨c, s, t, h1, h2, h3, h4⟩ p q q1 q2 q3
theorem CRs.cpy {f g t : Nat → Int32} {a b : Nat} (h : CRs f t a) (hin : ∀ i : Nat, i < 460 → g (460 * b + i) = f (460 * a + i)) : CRs g t b := fun s hs => by rw [hin (105 * s) (by omega)]; exact h s hs
theorem CRs.oth {f g t : Nat → Int32} {b c : Nat} (h : CRs f t c) (hn : ¬ c = b) (hout : ∀ j : Nat, (j < 460 * b ∨ 460 * b + 460 ≤ j) → g j = f j) : CRs g t c := fun s hs => by rw [hout _ (by omega)]; exact h s hs
theorem SI.copy {f g t mk mk' : Nat → Int32} (h : SI f t mk) {a b : Nat} (ha : a < 6) (hin : ∀ i : Nat, i < 460 → g (460 * b + i) = f (460 * a + i)) (hout : ∀ j : Nat, (j < 460 * b ∨ 460 * b + 460 ≤ j) → g j = f j) (ca : CRs f t a) (hm : ∀ m : Nat, m < 4 → ¬ (mk' m).toInt = 0 → ¬ 2 + m = b → ¬ (mk m).toInt = 0) : SI g t mk' := ⟨DU.copy h.1 ha hin hout, by
    by_cases e : 0 = b
    · subst e; exact CRs.cpy ca hin
    · exact CRs.oth h.2.1 e hout, fun m h4 h1 => by
    by_cases e : 2 + m = b
    · subst e; exact CRs.cpy ca hin
    · exact CRs.oth (h.2.2 m h4 (hm m h4 h1 e)) e hout⟩
theorem SI.tail {f t mk : Nat → Int32} (h : SI f t mk) {k : Nat} (hk : 420 ≤ k ∧ k < 460) {x : Int32} : SI (upd f k x) t mk := ⟨DU.out h.1 (fun i hi => AD.tail (b := 0) (r := k) hi hk.1 hk.2 (by omega)), CRs.out h.2.1 (fun s hs => by omega), fun m h4 h1 => CRs.out (h.2.2 m h4 h1) (fun s hs => by omega)⟩
theorem PK.copy {f g t : Nat → Int32} {w s k : Int32} (h : PK f t 0 0 w s k) (hsv : SV f) (ht : (t 1).toInt ≤ 4) (hs : 0 ≤ s.toInt ∧ s.toInt ≤ 3) (hin : ∀ i : Nat, i < 460 → g (460 * 1 + i) = f (460 * 0 + i)) : PK g t 460 1 w s k := by
  obtain ⟨h1, h2, h3⟩ := h
  refine ⟨?_, h2, ?_⟩
  · intro s' hs' t' p h8 h0 hp
    have e1 : g (460 * 1 + 105 * s') = f (460 * 0 + 105 * s') := hin (105 * s') (by omega)
    have e2 : ∀ r : Nat, r < 13 → g (460 * 1 + 105 * s' + 1 + 13 * t' + r) = f (460 * 0 + 105 * s' + 1 + 13 * t' + r) := fun r hr => by
      have := hin (105 * s' + 1 + 13 * t' + r) (by omega)
      rw [show 460 * 1 + 105 * s' + 1 + 13 * t' + r = 460 * 1 + (105 * s' + 1 + 13 * t' + r) from (by omega), this, show 460 * 0 + (105 * s' + 1 + 13 * t' + r) = 460 * 0 + 105 * s' + 1 + 13 * t' + r from (by omega)]
    have e3 := e2 0 (by omega)
    rw [show 460 * 1 + 105 * s' + 1 + 13 * t' + 0 = 460 * 1 + 105 * s' + 1 + 13 * t' from rfl, show 460 * 0 + 105 * s' + 1 + 13 * t' + 0 = 460 * 0 + 105 * s' + 1 + 13 * t' from rfl] at e3
    rw [e1] at h0
    rw [e3] at hp
    have h9 := hsv.siz (i := 460 * 0 + 105 * s' + 1 + 13 * t') (k := 460 * 0 + 105 * s' + 1 + 13 * t') ⟨0, s', t', by decide, by omega, h8, by omega⟩ (by omega)
    have e4 := e2 (1 + p) (by omega)
    rw [show 460 * 1 + 105 * s' + 1 + 13 * t' + 1 + p = 460 * 1 + 105 * s' + 1 + 13 * t' + (1 + p) from (by omega), e4, show 460 * 0 + 105 * s' + 1 + 13 * t' + (1 + p) = 460 * 0 + 105 * s' + 1 + 13 * t' + 1 + p from (by omega)]
    exact h1 s' hs' t' p h8 h0 hp
  · have e1 : g (460 + 105 * s.toInt.toNat) = f (0 + 105 * s.toInt.toNat) := by
      have := hin (105 * s.toInt.toNat) (by omega)
      rw [show 460 + 105 * s.toInt.toNat = 460 * 1 + 105 * s.toInt.toNat from (by omega), this, show 460 * 0 + 105 * s.toInt.toNat = 0 + 105 * s.toInt.toNat from (by omega)]
    rw [e1]; exact h3
theorem DT.rot {f : Nat → Int32} {i : Nat} (h : DT f i) {c n : Int} (hn : n = (f i).toInt) (h12 : n ≤ 12) (hc : 0 ≤ c ∧ c < n) {w : Int32} (hw : f (i + 1 + c.toNat) = w) {r : Nat → Int32} (hr : ∀ p : Nat, (p : Int) < n - 1 → r p = f (i + 1 + (if (p : Int) < c then p else p + 1))) {k : Nat} (hk : (k : Int) = n - 1) : ∀ p q : Nat, p < q → (q : Int) < n → upd r k w p ≠ upd r k w q := by
  intro p q h1 h2
  rw [pk_un (show ¬ p = k from (by omega)), hr p (by omega)]
  by_cases e : q = k
  · rw [e, pk_us, ← hw]
    by_cases e1 : (p : Int) < c
    · rw [if_pos e1]; exact h p c.toNat (by omega) (by omega) (by omega)
    · rw [if_neg e1]; exact fun z => h c.toNat (p + 1) (by omega) (by omega) (by omega) z.symm
  · rw [pk_un e, hr q (by omega)]
    exact DT.skip h c (by omega) p q h1 (by omega)
set_option maxHeartbeats 4000000 in
set_option maxRecDepth 100000 in
theorem c_X11_copies_01 (l : Launch) (D : DG) (cyC cyI cyJ cyZ cyO : ClassId) (m0 : Nat) (mstates : Nat) (mtape : Nat) (msort : Nat) (mplace : Nat) (mvalue : Nat) (mwords : Nat) (mtold : Nat) (mop : Nat) (marg : Nat) (mnames : Nat) (mhasHabit : Nat) (mfactWords : Nat) (mfacts : Nat) (mpile : Nat) (misMarked : Nat) (mrow : Nat) (mthr : Nat) (mmays : Nat) (mtall : Nat) (mweights : Nat) (mrowOfWare : Nat) (mneededOf : Nat) (mtried : Nat) (mbestRow : Nat) (mdigits : Nat) (m_thrown : Int32) (m_taped : Int32) (m_size : Int32) (m_at : Int32) (m_fault : Int32) (m_codes : Int32) (m_isNew : Int32) (m_inShelf : Int32) (m_inStack : Int32) (m_inPlace : Int32) (m_rowMany : Int32) (m_goShelf : Int32) (m_goStack : Int32) (m_goLeft : Int32) (m_bestCost : Int32) (m_bestMany : Int32) (m_bestShelf : Int32) (m_bestSet : Int32) (m_states : Nat → Int32) (h_m_taped : 0 ≤ (m_taped).toInt ∧ (m_taped).toInt ≤ 1000) (h_m_size : 0 ≤ (m_size).toInt ∧ (m_size).toInt ≤ 1000) (h_m_at : 0 ≤ (m_at).toInt ∧ (m_at).toInt ≤ 1000) (h_m_fault : 0 ≤ (m_fault).toInt ∧ (m_fault).toInt ≤ 16005) (h_m_codes : 0 ≤ (m_codes).toInt ∧ (m_codes).toInt ≤ 1000) (h_m_isNew : 0 ≤ (m_isNew).toInt ∧ (m_isNew).toInt ≤ 1) (h_m_inShelf : 0 ≤ (m_inShelf).toInt ∧ (m_inShelf).toInt ≤ 3) (h_m_inStack : 0 ≤ (m_inStack).toInt ∧ (m_inStack).toInt ≤ 7) (h_m_inPlace : 0 ≤ (m_inPlace).toInt ∧ (m_inPlace).toInt ≤ 11) (h_m_rowMany : 0 ≤ (m_rowMany).toInt ∧ (m_rowMany).toInt ≤ 12) (h_m_goShelf : -1 ≤ (m_goShelf).toInt ∧ (m_goShelf).toInt ≤ 3) (h_m_bestMany : 0 ≤ (m_bestMany).toInt ∧ (m_bestMany).toInt ≤ 7) (h_m_bestShelf : 0 ≤ (m_bestShelf).toInt ∧ (m_bestShelf).toInt ≤ 3) (h_m_states : SV m_states) : KK l D (TY cyC cyI cyJ cyZ cyO) yX11_copies cX11_copies 4 none ({ frames := 0, cells := 0, slots := 0, locals := 0 } : Room) 0 0 [.ref m0, .int 0, .int 1] [(m0, .inr (11, [.int m_thrown, .ref mtape, .int m_taped, .int m_size, .ref msort, .ref mplace, .ref mvalue, .int m_at, .int m_fault, .ref mwords, .ref mtold, .ref mop, .ref marg, .int m_codes, .ref mnames, .ref mhasHabit, .int m_isNew, .ref mfactWords, .ref mfacts, .ref mpile, .ref mstates, .ref misMarked, .int m_inShelf, .int m_inStack, .int m_inPlace, .ref mrow, .int m_rowMany, .ref mthr, .ref mmays, .ref mtall, .ref mweights, .ref mrowOfWare, .ref mneededOf, .int m_goShelf, .int m_goStack, .int m_goLeft, .ref mtried, .ref mbestRow, .int m_bestCost, .int m_bestMany, .int m_bestShelf, .int m_bestSet, .ref mdigits])), (mstates, .inl (cyI, 2760, .inl m_states))] (fun u => none) (fun u => (SV (u.2.2.1 0)) ∧ (∀ i : Nat, i < 460 → (u.2.2.1 0) (460 * 1 + i) = m_states (460 * 0 + i)) ∧ (∀ j : Nat, (j < 460 * 1 ∨ 460 * 1 + 460 ≤ j) → (u.2.2.1 0) j = m_states j)) (fun u => [(m0, .inr (11, [.int m_thrown, .ref mtape, .int m_taped, .int m_size, .ref msort, .ref mplace, .ref mvalue, .int m_at, .int m_fault, .ref mwords, .ref mtold, .ref mop, .ref marg, .int m_codes, .ref mnames, .ref mhasHabit, .int m_isNew, .ref mfactWords, .ref mfacts, .ref mpile, .ref mstates, .ref misMarked, .int m_inShelf, .int m_inStack, .int m_inPlace, .ref mrow, .int m_rowMany, .ref mthr, .ref mmays, .ref mtall, .ref mweights, .ref mrowOfWare, .ref mneededOf, .int m_goShelf, .int m_goStack, .int m_goLeft, .ref mtried, .ref mbestRow, .int m_bestCost, .int m_bestMany, .int m_bestShelf, .int m_bestSet, .ref mdigits])), (mstates, .inl (cyI, 2760, .inl (u.2.2.1 0)))]) := by
  refine KK.of (lv0 := [(0, .ref m0), (1, .int 0), (2, .int 1)]) (by decide) rfl (Nat.le_of_ble_eq_true rfl) ?_
  intro p e s m args below meth c A C hr hk hin
  refine j_iconst (pc := 0) (v := 0) C dX11_copies_0 (by decide) ?_
  refine j_istore_n (pc := 1) (lv' := [(3, .int 0), (0, .ref m0), (1, .int 0), (2, .int 1)]) C dX11_copies_1 rfl (by decide) rfl ?_
  have loop_1 : ∀ (k_1 : Nat) (x1_3 : Int32) (g1_mstates : Nat → Int32), (0 ≤ (x1_3).toInt ∧ (x1_3).toInt ≤ 460) → (SV g1_mstates) → (∀ j : Nat, ((j : Int) < 460 * ((1 : Nat) : Int) ∨ 460 * ((1 : Nat) : Int) + x1_3.toInt ≤ (j : Int)) → g1_mstates j = m_states j) → (∀ i : Nat, (i : Int) < x1_3.toInt → g1_mstates (460 * 1 + i) = m_states (460 * 0 + i)) → (460 - x1_3.toInt).toNat < k_1 → J p l e ({ frames := 0, cells := 0, slots := 0, locals := 0 } : Room) s m args below meth c D A 4 0 0 (QX below D (TY cyC cyI cyJ cyZ cyO) A (fun u => none) (fun u => (SV (u.2.2.1 0)) ∧ (∀ i : Nat, i < 460 → (u.2.2.1 0) (460 * 1 + i) = m_states (460 * 0 + i)) ∧ (∀ j : Nat, (j < 460 * 1 ∨ 460 * 1 + 460 ≤ j) → (u.2.2.1 0) j = m_states j)) (fun u => [(m0, .inr (11, [.int m_thrown, .ref mtape, .int m_taped, .int m_size, .ref msort, .ref mplace, .ref mvalue, .int m_at, .int m_fault, .ref mwords, .ref mtold, .ref mop, .ref marg, .int m_codes, .ref mnames, .ref mhasHabit, .int m_isNew, .ref mfactWords, .ref mfacts, .ref mpile, .ref mstates, .ref misMarked, .int m_inShelf, .int m_inStack, .int m_inPlace, .ref mrow, .int m_rowMany, .ref mthr, .ref mmays, .ref mtall, .ref mweights, .ref mrowOfWare, .ref mneededOf, .int m_goShelf, .int m_goStack, .int m_goLeft, .ref mtried, .ref mbestRow, .int m_bestCost, .int m_bestMany, .int m_bestShelf, .int m_bestSet, .ref mdigits])), (mstates, .inl (cyI, 2760, .inl (u.2.2.1 0)))]) args s 0 0) [(m0, .inr (11, [.int m_thrown, .ref mtape, .int m_taped, .int m_size, .ref msort, .ref mplace, .ref mvalue, .int m_at, .int m_fault, .ref mwords, .ref mtold, .ref mop, .ref marg, .int m_codes, .ref mnames, .ref mhasHabit, .int m_isNew, .ref mfactWords, .ref mfacts, .ref mpile, .ref mstates, .ref misMarked, .int m_inShelf, .int m_inStack, .int m_inPlace, .ref mrow, .int m_rowMany, .ref mthr, .ref mmays, .ref mtall, .ref mweights, .ref mrowOfWare, .ref mneededOf, .int m_goShelf, .int m_goStack, .int m_goLeft, .ref mtried, .ref mbestRow, .int m_bestCost, .int m_bestMany, .int m_bestShelf, .int m_bestSet, .ref mdigits])), (mstates, .inl (cyI, 2760, .inl g1_mstates))] 2 [(3, .int x1_3), (0, .ref m0), (1, .int 0), (2, .int 1)] [] := by
    intro k_1
    induction k_1 with
    | zero =>
      intro x1_3 g1_mstates hi_1_0 hi_1_1 hq_1_0 hq_1_1 hm_1
      exact absurd hm_1 (Nat.not_lt_zero _)
    | succ k_1 ih_1 =>
      intro x1_3 g1_mstates hi_1_0 hi_1_1 hq_1_0 hq_1_1 hm_1
      refine j_iload_n (pc := 2) C dX11_copies_2 rfl 0 rfl ?_
      refine j_sipush (pc := 3) (v := 460) C dX11_copies_3 (by decide) ?_
      refine j_icmp_ge (pc := 6) (tgt := 39) C dX11_copies_6 (by decide) (fun c_2 => ?_) (fun c_2 => ?_)
      · skip
        have el_460 : (460 : Int32).toInt = 460 := rfl
        rw [i_le] at c_2
        have k0c_2 : x1_3.toInt = 460 := by omega
        exact j_vret (pc := 39) C hr hk (fun i => [].getD i 0, fun i => [].getD i 0, fun i => [g1_mstates].getD i (fun _ => 0), fun i => [].getD i (fun _ => 0)) rfl (show (SV g1_mstates) ∧ (∀ i : Nat, i < 460 → g1_mstates (460 * 1 + i) = m_states (460 * 0 + i)) ∧ (∀ j : Nat, (j < 460 * 1 ∨ 460 * 1 + 460 ≤ j) → g1_mstates j = m_states j) from ⟨hi_1_1, (fun i hi => hq_1_1 i (by omega)), (fun j hj => hq_1_0 j (by omega))⟩) [0, 1] (by decide) rfl (by decide) (by decide) dX11_copies_39
      · skip
        have el_460 : (460 : Int32).toInt = 460 := rfl
        rw [i_le] at c_2
        refine j_aload_n (pc := 9) C dX11_copies_9 rfl 1 rfl ?_
        refine j_get (pc := 10) (ci := 11) (v := .ref mstates) C inw_11 0 rfl rfl 20 (by decide) wd_764 rfl rfl dX11_copies_10 ?_
        refine j_sipush (pc := 13) (v := 460) C dX11_copies_13 (by decide) ?_
        refine j_iload_n (pc := 16) C dX11_copies_16 rfl 3 rfl ?_
        refine j_imul (pc := 17) (v := 460) C dX11_copies_17 (by decide) ?_
        refine j_iload_n (pc := 18) C dX11_copies_18 rfl 0 rfl ?_
        obtain ⟨v_3, ev_3⟩ : ∃ z : Int32, 460 + x1_3 = z := ⟨_, rfl⟩
        have el_460 : (460 : Int32).toInt = 460 := rfl
        have hv_3 : v_3.toInt = (460 : Int32).toInt + x1_3.toInt := by rw [← ev_3]; exact fb_addI (by omega) (by omega)
        refine j_iadd (pc := 19) (v := v_3) C dX11_copies_19 ev_3 ?_
        refine j_aload_n (pc := 20) C dX11_copies_20 rfl 1 rfl ?_
        refine j_get (pc := 21) (ci := 11) (v := .ref mstates) C inw_11 0 rfl rfl 20 (by decide) wd_764 rfl rfl dX11_copies_21 ?_
        refine j_sipush (pc := 24) (v := 460) C dX11_copies_24 (by decide) ?_
        refine j_iload_n (pc := 27) C dX11_copies_27 rfl 2 rfl ?_
        refine j_imul (pc := 28) (v := 0) C dX11_copies_28 (by decide) ?_
        refine j_iload_n (pc := 29) C dX11_copies_29 rfl 0 rfl ?_
        obtain ⟨v_4, ev_4⟩ : ∃ z : Int32, 0 + x1_3 = z := ⟨_, rfl⟩
        have el_0 : (0 : Int32).toInt = 0 := rfl
        have hv_4 : v_4.toInt = (0 : Int32).toInt + x1_3.toInt := by rw [← ev_4]; exact fb_addI (by omega) (by omega)
        refine j_iadd (pc := 30) (v := v_4) C dX11_copies_30 ev_4 ?_
        obtain ⟨v_5, ev_5⟩ : ∃ z, g1_mstates (v_4).toInt.toNat = z := ⟨_, rfl⟩
        have env_5 : (g1_mstates (v_4).toInt.toNat).toInt = v_5.toInt := by rw [ev_5]
        refine j_iald (pc := 31) (v := v_5) (k := (v_4).toInt.toNat) C 1 1 rfl rfl (i_nn (by omega)) rfl (i_lt_n (by omega) (by omega)) ev_5 dX11_copies_31 ?_
        obtain ⟨f_6, ef_6⟩ : ∃ z, z = upd g1_mstates (v_3).toInt.toNat v_5 := ⟨_, rfl⟩
        have hf_6 : SV f_6 := by rw [ef_6]; exact SV.cp (a := 0) (b := 1) (k := (x1_3).toInt.toNat) hi_1_1 (by omega) (by omega) (by omega) (by omega) ev_5
        refine j_iast (pc := 32) (k := (v_3).toInt.toNat) (ws' := [(m0, .inr (11, [.int m_thrown, .ref mtape, .int m_taped, .int m_size, .ref msort, .ref mplace, .ref mvalue, .int m_at, .int m_fault, .ref mwords, .ref mtold, .ref mop, .ref marg, .int m_codes, .ref mnames, .ref mhasHabit, .int m_isNew, .ref mfactWords, .ref mfacts, .ref mpile, .ref mstates, .ref misMarked, .int m_inShelf, .int m_inStack, .int m_inPlace, .ref mrow, .int m_rowMany, .ref mthr, .ref mmays, .ref mtall, .ref mweights, .ref mrowOfWare, .ref mneededOf, .int m_goShelf, .int m_goStack, .int m_goLeft, .ref mtried, .ref mbestRow, .int m_bestCost, .int m_bestMany, .int m_bestShelf, .int m_bestSet, .ref mdigits])), (mstates, .inl (cyI, 2760, .inl f_6))]) C 1 1 rfl rfl (i_nn (by omega)) rfl (i_lt_n (by omega) (by omega)) dX11_copies_32 (by rw [ef_6]; rfl) ?_
        obtain ⟨v_7, ev_7⟩ : ∃ z : Int32, x1_3 + 1 = z := ⟨_, rfl⟩
        have el_1 : (1 : Int32).toInt = 1 := rfl
        have hv_7 : v_7.toInt = x1_3.toInt + (1 : Int32).toInt := by rw [← ev_7]; exact fb_addI (by omega) (by omega)
        refine j_iinc (pc := 33) (v := v_7) (lv' := [(3, .int v_7), (0, .ref m0), (1, .int 0), (2, .int 1)]) C dX11_copies_33 0 rfl ev_7 (by decide) rfl ?_
        refine j_goto (pc := 36) (tgt := 2) C dX11_copies_36 (by decide) ?_
        exact j_lv [0, 1, 2, 3] rfl (ih_1 v_7 f_6 (by omega) hf_6 (fun j hj => by rw [ef_6, pk_un (show ¬ j = (v_3).toInt.toNat from (by omega))]; exact hq_1_0 j (by omega)) (fun i h0 => by rcases Int.lt_or_le (i : Int) (x1_3).toInt with q | q; (rw [ef_6, pk_un (show ¬ 460 * 1 + i = (v_3).toInt.toNat from (by omega))]; exact hq_1_1 i q); (rw [ef_6, show 460 * 1 + i = (v_3).toInt.toNat from (by omega), pk_us, ← ev_5, show 460 * 0 + i = (v_4).toInt.toNat from (by omega)]; exact hq_1_0 _ (by omega))) (by omega))
  have el_0 : (0 : Int32).toInt = 0 := rfl
  exact j_lv [0, 1, 2, 3] rfl (loop_1 4096 0 m_states (by decide) h_m_states (fun j _ => rfl) (fun i h0 => absurd h0 (by omega)) (by omega))
set_option maxHeartbeats 4000000 in
set_option maxRecDepth 100000 in
theorem c_X11_copies (l : Launch) (D : DG) (cyC cyI cyJ cyZ cyO : ClassId) (m0 : Nat) (mstates : Nat) (mtape : Nat) (msort : Nat) (mplace : Nat) (mvalue : Nat) (mwords : Nat) (mtold : Nat) (mop : Nat) (marg : Nat) (mnames : Nat) (mhasHabit : Nat) (mfactWords : Nat) (mfacts : Nat) (mpile : Nat) (misMarked : Nat) (mrow : Nat) (mthr : Nat) (mmays : Nat) (mtall : Nat) (mweights : Nat) (mrowOfWare : Nat) (mneededOf : Nat) (mtried : Nat) (mbestRow : Nat) (mdigits : Nat) (p0 : Int32) (p1 : Int32) (m_thrown : Int32) (m_taped : Int32) (m_size : Int32) (m_at : Int32) (m_fault : Int32) (m_codes : Int32) (m_isNew : Int32) (m_inShelf : Int32) (m_inStack : Int32) (m_inPlace : Int32) (m_rowMany : Int32) (m_goShelf : Int32) (m_goStack : Int32) (m_goLeft : Int32) (m_bestCost : Int32) (m_bestMany : Int32) (m_bestShelf : Int32) (m_bestSet : Int32) (m_states : Nat → Int32) (h_m_taped : 0 ≤ (m_taped).toInt ∧ (m_taped).toInt ≤ 1000) (h_m_size : 0 ≤ (m_size).toInt ∧ (m_size).toInt ≤ 1000) (h_m_at : 0 ≤ (m_at).toInt ∧ (m_at).toInt ≤ 1000) (h_m_fault : 0 ≤ (m_fault).toInt ∧ (m_fault).toInt ≤ 16005) (h_m_codes : 0 ≤ (m_codes).toInt ∧ (m_codes).toInt ≤ 1000) (h_m_isNew : 0 ≤ (m_isNew).toInt ∧ (m_isNew).toInt ≤ 1) (h_m_inShelf : 0 ≤ (m_inShelf).toInt ∧ (m_inShelf).toInt ≤ 3) (h_m_inStack : 0 ≤ (m_inStack).toInt ∧ (m_inStack).toInt ≤ 7) (h_m_inPlace : 0 ≤ (m_inPlace).toInt ∧ (m_inPlace).toInt ≤ 11) (h_m_rowMany : 0 ≤ (m_rowMany).toInt ∧ (m_rowMany).toInt ≤ 12) (h_m_goShelf : -1 ≤ (m_goShelf).toInt ∧ (m_goShelf).toInt ≤ 3) (h_m_bestMany : 0 ≤ (m_bestMany).toInt ∧ (m_bestMany).toInt ≤ 7) (h_m_bestShelf : 0 ≤ (m_bestShelf).toInt ∧ (m_bestShelf).toInt ≤ 3) (h_p0 : 0 ≤ (p0).toInt ∧ (p0).toInt ≤ 5) (h_p1 : 0 ≤ (p1).toInt ∧ (p1).toInt ≤ 5) (h_m_states : SV m_states) (hne : ¬ (p0).toInt = (p1).toInt) : KK l D (TY cyC cyI cyJ cyZ cyO) yX11_copies cX11_copies 4 none ({ frames := 0, cells := 0, slots := 0, locals := 0 } : Room) 0 0 [.ref m0, .int p0, .int p1] [(m0, .inr (11, [.int m_thrown, .ref mtape, .int m_taped, .int m_size, .ref msort, .ref mplace, .ref mvalue, .int m_at, .int m_fault, .ref mwords, .ref mtold, .ref mop, .ref marg, .int m_codes, .ref mnames, .ref mhasHabit, .int m_isNew, .ref mfactWords, .ref mfacts, .ref mpile, .ref mstates, .ref misMarked, .int m_inShelf, .int m_inStack, .int m_inPlace, .ref mrow, .int m_rowMany, .ref mthr, .ref mmays, .ref mtall, .ref mweights, .ref mrowOfWare, .ref mneededOf, .int m_goShelf, .int m_goStack, .int m_goLeft, .ref mtried, .ref mbestRow, .int m_bestCost, .int m_bestMany, .int m_bestShelf, .int m_bestSet, .ref mdigits])), (mstates, .inl (cyI, 2760, .inl m_states))] (fun u => none) (fun u => (SV (u.2.2.1 0)) ∧ (∀ i : Nat, i < 460 → (u.2.2.1 0) (460 * (p1).toInt.toNat + i) = m_states (460 * (p0).toInt.toNat + i)) ∧ (∀ j : Nat, (j < 460 * (p1).toInt.toNat ∨ 460 * (p1).toInt.toNat + 460 ≤ j) → (u.2.2.1 0) j = m_states j)) (fun u => [(m0, .inr (11, [.int m_thrown, .ref mtape, .int m_taped, .int m_size, .ref msort, .ref mplace, .ref mvalue, .int m_at, .int m_fault, .ref mwords, .ref mtold, .ref mop, .ref marg, .int m_codes, .ref mnames, .ref mhasHabit, .int m_isNew, .ref mfactWords, .ref mfacts, .ref mpile, .ref mstates, .ref misMarked, .int m_inShelf, .int m_inStack, .int m_inPlace, .ref mrow, .int m_rowMany, .ref mthr, .ref mmays, .ref mtall, .ref mweights, .ref mrowOfWare, .ref mneededOf, .int m_goShelf, .int m_goStack, .int m_goLeft, .ref mtried, .ref mbestRow, .int m_bestCost, .int m_bestMany, .int m_bestShelf, .int m_bestSet, .ref mdigits])), (mstates, .inl (cyI, 2760, .inl (u.2.2.1 0)))]) := by
  refine KK.of (lv0 := [(0, .ref m0), (1, .int p0), (2, .int p1)]) (by decide) rfl (Nat.le_of_ble_eq_true rfl) ?_
  intro p e s m args below meth c A C hr hk hin
  refine j_iconst (pc := 0) (v := 0) C dX11_copies_0 (by decide) ?_
  refine j_istore_n (pc := 1) (lv' := [(3, .int 0), (0, .ref m0), (1, .int p0), (2, .int p1)]) C dX11_copies_1 rfl (by decide) rfl ?_
  have loop_1 : ∀ (k_1 : Nat) (x1_3 : Int32) (g1_mstates : Nat → Int32), (0 ≤ (x1_3).toInt ∧ (x1_3).toInt ≤ 460) → (SV g1_mstates) → (∀ j : Nat, ((j : Int) < 460 * (((p1).toInt.toNat : Nat) : Int) ∨ 460 * (((p1).toInt.toNat : Nat) : Int) + x1_3.toInt ≤ (j : Int)) → g1_mstates j = m_states j) → (∀ i : Nat, (i : Int) < x1_3.toInt → g1_mstates (460 * (p1).toInt.toNat + i) = m_states (460 * (p0).toInt.toNat + i)) → (460 - x1_3.toInt).toNat < k_1 → J p l e ({ frames := 0, cells := 0, slots := 0, locals := 0 } : Room) s m args below meth c D A 4 0 0 (QX below D (TY cyC cyI cyJ cyZ cyO) A (fun u => none) (fun u => (SV (u.2.2.1 0)) ∧ (∀ i : Nat, i < 460 → (u.2.2.1 0) (460 * (p1).toInt.toNat + i) = m_states (460 * (p0).toInt.toNat + i)) ∧ (∀ j : Nat, (j < 460 * (p1).toInt.toNat ∨ 460 * (p1).toInt.toNat + 460 ≤ j) → (u.2.2.1 0) j = m_states j)) (fun u => [(m0, .inr (11, [.int m_thrown, .ref mtape, .int m_taped, .int m_size, .ref msort, .ref mplace, .ref mvalue, .int m_at, .int m_fault, .ref mwords, .ref mtold, .ref mop, .ref marg, .int m_codes, .ref mnames, .ref mhasHabit, .int m_isNew, .ref mfactWords, .ref mfacts, .ref mpile, .ref mstates, .ref misMarked, .int m_inShelf, .int m_inStack, .int m_inPlace, .ref mrow, .int m_rowMany, .ref mthr, .ref mmays, .ref mtall, .ref mweights, .ref mrowOfWare, .ref mneededOf, .int m_goShelf, .int m_goStack, .int m_goLeft, .ref mtried, .ref mbestRow, .int m_bestCost, .int m_bestMany, .int m_bestShelf, .int m_bestSet, .ref mdigits])), (mstates, .inl (cyI, 2760, .inl (u.2.2.1 0)))]) args s 0 0) [(m0, .inr (11, [.int m_thrown, .ref mtape, .int m_taped, .int m_size, .ref msort, .ref mplace, .ref mvalue, .int m_at, .int m_fault, .ref mwords, .ref mtold, .ref mop, .ref marg, .int m_codes, .ref mnames, .ref mhasHabit, .int m_isNew, .ref mfactWords, .ref mfacts, .ref mpile, .ref mstates, .ref misMarked, .int m_inShelf, .int m_inStack, .int m_inPlace, .ref mrow, .int m_rowMany, .ref mthr, .ref mmays, .ref mtall, .ref mweights, .ref mrowOfWare, .ref mneededOf, .int m_goShelf, .int m_goStack, .int m_goLeft, .ref mtried, .ref mbestRow, .int m_bestCost, .int m_bestMany, .int m_bestShelf, .int m_bestSet, .ref mdigits])), (mstates, .inl (cyI, 2760, .inl g1_mstates))] 2 [(3, .int x1_3), (0, .ref m0), (1, .int p0), (2, .int p1)] [] := by
    intro k_1
    induction k_1 with
    | zero =>
      intro x1_3 g1_mstates hi_1_0 hi_1_1 hq_1_0 hq_1_1 hm_1
      exact absurd hm_1 (Nat.not_lt_zero _)
    | succ k_1 ih_1 =>
      intro x1_3 g1_mstates hi_1_0 hi_1_1 hq_1_0 hq_1_1 hm_1
      refine j_iload_n (pc := 2) C dX11_copies_2 rfl 0 rfl ?_
      refine j_sipush (pc := 3) (v := 460) C dX11_copies_3 (by decide) ?_
      refine j_icmp_ge (pc := 6) (tgt := 39) C dX11_copies_6 (by decide) (fun c_2 => ?_) (fun c_2 => ?_)
      · skip
        have el_460 : (460 : Int32).toInt = 460 := rfl
        rw [i_le] at c_2
        have k0c_2 : x1_3.toInt = 460 := by omega
        exact j_vret (pc := 39) C hr hk (fun i => [].getD i 0, fun i => [].getD i 0, fun i => [g1_mstates].getD i (fun _ => 0), fun i => [].getD i (fun _ => 0)) rfl (show (SV g1_mstates) ∧ (∀ i : Nat, i < 460 → g1_mstates (460 * (p1).toInt.toNat + i) = m_states (460 * (p0).toInt.toNat + i)) ∧ (∀ j : Nat, (j < 460 * (p1).toInt.toNat ∨ 460 * (p1).toInt.toNat + 460 ≤ j) → g1_mstates j = m_states j) from ⟨hi_1_1, (fun i hi => hq_1_1 i (by omega)), (fun j hj => hq_1_0 j (by omega))⟩) [0, 1] (by decide) rfl (by decide) (by decide) dX11_copies_39
      · skip
        have el_460 : (460 : Int32).toInt = 460 := rfl
        rw [i_le] at c_2
        refine j_aload_n (pc := 9) C dX11_copies_9 rfl 1 rfl ?_
        refine j_get (pc := 10) (ci := 11) (v := .ref mstates) C inw_11 0 rfl rfl 20 (by decide) wd_764 rfl rfl dX11_copies_10 ?_
        refine j_sipush (pc := 13) (v := 460) C dX11_copies_13 (by decide) ?_
        refine j_iload_n (pc := 16) C dX11_copies_16 rfl 3 rfl ?_
        obtain ⟨v_3, ev_3⟩ : ∃ z : Int32, 460 * p1 = z := ⟨_, rfl⟩
        have el_460 : (460 : Int32).toInt = 460 := rfl
        have hv_3 : v_3.toInt = 460 * p1.toInt := by rw [← ev_3]; exact mulL (c := 460) rfl (by omega) (by omega)
        refine j_imul (pc := 17) (v := v_3) C dX11_copies_17 ev_3 ?_
        refine j_iload_n (pc := 18) C dX11_copies_18 rfl 0 rfl ?_
        obtain ⟨v_4, ev_4⟩ : ∃ z : Int32, v_3 + x1_3 = z := ⟨_, rfl⟩
        have hv_4 : v_4.toInt = v_3.toInt + x1_3.toInt := by rw [← ev_4]; exact fb_addI (by omega) (by omega)
        refine j_iadd (pc := 19) (v := v_4) C dX11_copies_19 ev_4 ?_
        refine j_aload_n (pc := 20) C dX11_copies_20 rfl 1 rfl ?_
        refine j_get (pc := 21) (ci := 11) (v := .ref mstates) C inw_11 0 rfl rfl 20 (by decide) wd_764 rfl rfl dX11_copies_21 ?_
        refine j_sipush (pc := 24) (v := 460) C dX11_copies_24 (by decide) ?_
        refine j_iload_n (pc := 27) C dX11_copies_27 rfl 2 rfl ?_
        obtain ⟨v_5, ev_5⟩ : ∃ z : Int32, 460 * p0 = z := ⟨_, rfl⟩
        have el_460 : (460 : Int32).toInt = 460 := rfl
        have hv_5 : v_5.toInt = 460 * p0.toInt := by rw [← ev_5]; exact mulL (c := 460) rfl (by omega) (by omega)
        refine j_imul (pc := 28) (v := v_5) C dX11_copies_28 ev_5 ?_
        refine j_iload_n (pc := 29) C dX11_copies_29 rfl 0 rfl ?_
        obtain ⟨v_6, ev_6⟩ : ∃ z : Int32, v_5 + x1_3 = z := ⟨_, rfl⟩
        have hv_6 : v_6.toInt = v_5.toInt + x1_3.toInt := by rw [← ev_6]; exact fb_addI (by omega) (by omega)
        refine j_iadd (pc := 30) (v := v_6) C dX11_copies_30 ev_6 ?_
        obtain ⟨v_7, ev_7⟩ : ∃ z, g1_mstates (v_6).toInt.toNat = z := ⟨_, rfl⟩
        have env_7 : (g1_mstates (v_6).toInt.toNat).toInt = v_7.toInt := by rw [ev_7]
        refine j_iald (pc := 31) (v := v_7) (k := (v_6).toInt.toNat) C 1 1 rfl rfl (i_nn (by omega)) rfl (i_lt_n (by omega) (by omega)) ev_7 dX11_copies_31 ?_
        obtain ⟨f_8, ef_8⟩ : ∃ z, z = upd g1_mstates (v_4).toInt.toNat v_7 := ⟨_, rfl⟩
        have hf_8 : SV f_8 := by rw [ef_8]; exact SV.cp (a := (p0).toInt.toNat) (b := (p1).toInt.toNat) (k := (x1_3).toInt.toNat) hi_1_1 (by omega) (by omega) (by omega) (by omega) ev_7
        refine j_iast (pc := 32) (k := (v_4).toInt.toNat) (ws' := [(m0, .inr (11, [.int m_thrown, .ref mtape, .int m_taped, .int m_size, .ref msort, .ref mplace, .ref mvalue, .int m_at, .int m_fault, .ref mwords, .ref mtold, .ref mop, .ref marg, .int m_codes, .ref mnames, .ref mhasHabit, .int m_isNew, .ref mfactWords, .ref mfacts, .ref mpile, .ref mstates, .ref misMarked, .int m_inShelf, .int m_inStack, .int m_inPlace, .ref mrow, .int m_rowMany, .ref mthr, .ref mmays, .ref mtall, .ref mweights, .ref mrowOfWare, .ref mneededOf, .int m_goShelf, .int m_goStack, .int m_goLeft, .ref mtried, .ref mbestRow, .int m_bestCost, .int m_bestMany, .int m_bestShelf, .int m_bestSet, .ref mdigits])), (mstates, .inl (cyI, 2760, .inl f_8))]) C 1 1 rfl rfl (i_nn (by omega)) rfl (i_lt_n (by omega) (by omega)) dX11_copies_32 (by rw [ef_8]; rfl) ?_
        obtain ⟨v_9, ev_9⟩ : ∃ z : Int32, x1_3 + 1 = z := ⟨_, rfl⟩
        have el_1 : (1 : Int32).toInt = 1 := rfl
        have hv_9 : v_9.toInt = x1_3.toInt + (1 : Int32).toInt := by rw [← ev_9]; exact fb_addI (by omega) (by omega)
        refine j_iinc (pc := 33) (v := v_9) (lv' := [(3, .int v_9), (0, .ref m0), (1, .int p0), (2, .int p1)]) C dX11_copies_33 0 rfl ev_9 (by decide) rfl ?_
        refine j_goto (pc := 36) (tgt := 2) C dX11_copies_36 (by decide) ?_
        exact j_lv [0, 1, 2, 3] rfl (ih_1 v_9 f_8 (by omega) hf_8 (fun j hj => by rw [ef_8, pk_un (show ¬ j = (v_4).toInt.toNat from (by omega))]; exact hq_1_0 j (by omega)) (fun i h0 => by rcases Int.lt_or_le (i : Int) (x1_3).toInt with q | q; (rw [ef_8, pk_un (show ¬ 460 * (p1).toInt.toNat + i = (v_4).toInt.toNat from (by omega))]; exact hq_1_1 i q); (rw [ef_8, show 460 * (p1).toInt.toNat + i = (v_4).toInt.toNat from (by omega), pk_us, ← ev_7, show 460 * (p0).toInt.toNat + i = (v_6).toInt.toNat from (by omega)]; exact hq_1_0 _ (by omega))) (by omega))
  have el_0 : (0 : Int32).toInt = 0 := rfl
  exact j_lv [0, 1, 2, 3] rfl (loop_1 4096 0 m_states (by decide) h_m_states (fun j _ => rfl) (fun i h0 => absurd h0 (by omega)) (by omega))
set_option maxHeartbeats 4000000 in
set_option maxRecDepth 100000 in
theorem c_X11_mark (l : Launch) (D : DG) (cyC cyI cyJ cyZ cyO : ClassId) (m0 : Nat) (mtold : Nat) (mop : Nat) (marg : Nat) (mstates : Nat) (misMarked : Nat) (mtape : Nat) (msort : Nat) (mplace : Nat) (mvalue : Nat) (mwords : Nat) (mnames : Nat) (mhasHabit : Nat) (mfactWords : Nat) (mfacts : Nat) (mpile : Nat) (mrow : Nat) (mthr : Nat) (mmays : Nat) (mtall : Nat) (mweights : Nat) (mrowOfWare : Nat) (mneededOf : Nat) (mtried : Nat) (mbestRow : Nat) (mdigits : Nat) (p0 : Int32) (p1 : Int32) (m_thrown : Int32) (m_taped : Int32) (m_size : Int32) (m_at : Int32) (m_fault : Int32) (m_codes : Int32) (m_isNew : Int32) (m_inShelf : Int32) (m_inStack : Int32) (m_inPlace : Int32) (m_rowMany : Int32) (m_goShelf : Int32) (m_goStack : Int32) (m_goLeft : Int32) (m_bestCost : Int32) (m_bestMany : Int32) (m_bestShelf : Int32) (m_bestSet : Int32) (m_told : Nat → Int32) (m_op : Nat → Int32) (m_arg : Nat → Int32) (m_states : Nat → Int32) (m_isMarked : Nat → Int32) (h_m_taped : 0 ≤ (m_taped).toInt ∧ (m_taped).toInt ≤ 1000) (h_m_size : 0 ≤ (m_size).toInt ∧ (m_size).toInt ≤ 1000) (h_m_at : 0 ≤ (m_at).toInt ∧ (m_at).toInt ≤ 1000) (h_m_fault : 0 ≤ (m_fault).toInt ∧ (m_fault).toInt ≤ 16005) (h_m_codes : 0 ≤ (m_codes).toInt ∧ (m_codes).toInt ≤ 1000) (h_m_isNew : 0 ≤ (m_isNew).toInt ∧ (m_isNew).toInt ≤ 1) (h_m_inShelf : 0 ≤ (m_inShelf).toInt ∧ (m_inShelf).toInt ≤ 3) (h_m_inStack : 0 ≤ (m_inStack).toInt ∧ (m_inStack).toInt ≤ 7) (h_m_inPlace : 0 ≤ (m_inPlace).toInt ∧ (m_inPlace).toInt ≤ 11) (h_m_rowMany : 0 ≤ (m_rowMany).toInt ∧ (m_rowMany).toInt ≤ 12) (h_m_goShelf : -1 ≤ (m_goShelf).toInt ∧ (m_goShelf).toInt ≤ 3) (h_m_bestMany : 0 ≤ (m_bestMany).toInt ∧ (m_bestMany).toInt ≤ 7) (h_m_bestShelf : 0 ≤ (m_bestShelf).toInt ∧ (m_bestShelf).toInt ≤ 3) (h_p1 : 0 ≤ (p1).toInt ∧ (p1).toInt ≤ 1) (h_m_told : TV m_told) (h_m_states : SV m_states) (hSI : SI m_states m_told m_isMarked) : KK l D (TY cyC cyI cyJ cyZ cyO) yX11_mark cX11_mark 3 (some .boolean) ({ frames := 1, cells := 0, slots := 0, locals := 23 } : Room) 0 0 [.ref m0, .int p0, .int p1] [(m0, .inr (11, [.int m_thrown, .ref mtape, .int m_taped, .int m_size, .ref msort, .ref mplace, .ref mvalue, .int m_at, .int m_fault, .ref mwords, .ref mtold, .ref mop, .ref marg, .int m_codes, .ref mnames, .ref mhasHabit, .int m_isNew, .ref mfactWords, .ref mfacts, .ref mpile, .ref mstates, .ref misMarked, .int m_inShelf, .int m_inStack, .int m_inPlace, .ref mrow, .int m_rowMany, .ref mthr, .ref mmays, .ref mtall, .ref mweights, .ref mrowOfWare, .ref mneededOf, .int m_goShelf, .int m_goStack, .int m_goLeft, .ref mtried, .ref mbestRow, .int m_bestCost, .int m_bestMany, .int m_bestShelf, .int m_bestSet, .ref mdigits])), (mtold, .inl (cyI, 240, .inl m_told)), (mop, .inl (cyI, 2200, .inl m_op)), (marg, .inl (cyI, 2200, .inl m_arg)), (mstates, .inl (cyI, 2760, .inl m_states)), (misMarked, .inl (cyZ, 4, .inl m_isMarked))] (fun u => some (.int (u.2.1 0))) (fun u => (0 ≤ (u.2.1 0).toInt ∧ (u.2.1 0).toInt ≤ 1) ∧ (SV (u.2.2.1 0)) ∧ (SI (u.2.2.1 0) m_told (u.2.2.1 1))) (fun u => [(m0, .inr (11, [.int 0, .ref mtape, .int m_taped, .int m_size, .ref msort, .ref mplace, .ref mvalue, .int m_at, .int m_fault, .ref mwords, .ref mtold, .ref mop, .ref marg, .int m_codes, .ref mnames, .ref mhasHabit, .int m_isNew, .ref mfactWords, .ref mfacts, .ref mpile, .ref mstates, .ref misMarked, .int m_inShelf, .int m_inStack, .int m_inPlace, .ref mrow, .int m_rowMany, .ref mthr, .ref mmays, .ref mtall, .ref mweights, .ref mrowOfWare, .ref mneededOf, .int m_goShelf, .int m_goStack, .int m_goLeft, .ref mtried, .ref mbestRow, .int m_bestCost, .int m_bestMany, .int m_bestShelf, .int m_bestSet, .ref mdigits])), (mtold, .inl (cyI, 240, .inl m_told)), (mop, .inl (cyI, 2200, .inl m_op)), (marg, .inl (cyI, 2200, .inl m_arg)), (mstates, .inl (cyI, 2760, .inl (u.2.2.1 0))), (misMarked, .inl (cyZ, 4, .inl (u.2.2.1 1)))]) := by
  refine KK.of (lv0 := [(0, .ref m0), (1, .int p0), (2, .int p1)]) (by decide) rfl (Nat.le_of_ble_eq_true rfl) ?_
  intro p e s m args below meth c A C hr hk hin
  refine j_aload_n (pc := 0) C dX11_mark_0 rfl 0 rfl ?_
  refine j_iconst (pc := 1) (v := 0) C dX11_mark_1 (by decide) ?_
  refine j_put (pc := 2) (ci := 11) (v := .int 0) (ws' := [(m0, .inr (11, [.int 0, .ref mtape, .int m_taped, .int m_size, .ref msort, .ref mplace, .ref mvalue, .int m_at, .int m_fault, .ref mwords, .ref mtold, .ref mop, .ref marg, .int m_codes, .ref mnames, .ref mhasHabit, .int m_isNew, .ref mfactWords, .ref mfacts, .ref mpile, .ref mstates, .ref misMarked, .int m_inShelf, .int m_inStack, .int m_inPlace, .ref mrow, .int m_rowMany, .ref mthr, .ref mmays, .ref mtall, .ref mweights, .ref mrowOfWare, .ref mneededOf, .int m_goShelf, .int m_goStack, .int m_goLeft, .ref mtried, .ref mbestRow, .int m_bestCost, .int m_bestMany, .int m_bestShelf, .int m_bestSet, .ref mdigits])), (mtold, .inl (cyI, 240, .inl m_told)), (mop, .inl (cyI, 2200, .inl m_op)), (marg, .inl (cyI, 2200, .inl m_arg)), (mstates, .inl (cyI, 2760, .inl m_states)), (misMarked, .inl (cyZ, 4, .inl m_isMarked))]) C inw_11 0 rfl rfl 0 (by decide) wd_629 rfl tyX11_ok nmX11 rfl (tyX11_ok 0 (by decide)) rfl rfl (Nat.le_of_ble_eq_true rfl) dX11_mark_2 rfl ?_
  refine j_iload_n (pc := 5) C dX11_mark_5 rfl 1 rfl ?_
  refine j_iconst (pc := 6) (v := 0) C dX11_mark_6 (by decide) ?_
  refine j_iconst (pc := 7) (v := 3) C dX11_mark_7 (by decide) ?_
  refine j_callS (pc := 8) (As := [.int p0, .int 0, .int 3]) (rest := []) (wr := [(m0, .inr (11, [.int 0, .ref mtape, .int m_taped, .int m_size, .ref msort, .ref mplace, .ref mvalue, .int m_at, .int m_fault, .ref mwords, .ref mtold, .ref mop, .ref marg, .int m_codes, .ref mnames, .ref mhasHabit, .int m_isNew, .ref mfactWords, .ref mfacts, .ref mpile, .ref mstates, .ref misMarked, .int m_inShelf, .int m_inStack, .int m_inPlace, .ref mrow, .int m_rowMany, .ref mthr, .ref mmays, .ref mtall, .ref mweights, .ref mrowOfWare, .ref mneededOf, .int m_goShelf, .int m_goStack, .int m_goLeft, .ref mtried, .ref mbestRow, .int m_bestCost, .int m_bestMany, .int m_bestShelf, .int m_bestSet, .ref mdigits])), (mtold, .inl (cyI, 240, .inl m_told)), (mop, .inl (cyI, 2200, .inl m_op)), (marg, .inl (cyI, 2200, .inl m_arg)), (mstates, .inl (cyI, 2760, .inl m_states)), (misMarked, .inl (cyZ, 4, .inl m_isMarked))]) C (c_X11_within_f l D cyC cyI cyJ cyZ cyO p0 0 3) wd_818 wd_624 wd_819 wd_820 ⟨by decide, by decide, rfl⟩ rfl ⟨rfl, rfl, by decide, by decide⟩ ⟨by decide, by decide⟩ [] [0, 1, 2, 3, 4, 5] rfl rfl ⟨by decide, by decide, by decide⟩ rfl (Nat.le_of_ble_eq_true rfl) dX11_mark_8 (fun u_1 hw_2 => ?_)
  refine j_eq (ws2 := [(m0, .inr (11, [.int 0, .ref mtape, .int m_taped, .int m_size, .ref msort, .ref mplace, .ref mvalue, .int m_at, .int m_fault, .ref mwords, .ref mtold, .ref mop, .ref marg, .int m_codes, .ref mnames, .ref mhasHabit, .int m_isNew, .ref mfactWords, .ref mfacts, .ref mpile, .ref mstates, .ref misMarked, .int m_inShelf, .int m_inStack, .int m_inPlace, .ref mrow, .int m_rowMany, .ref mthr, .ref mmays, .ref mtall, .ref mweights, .ref mrowOfWare, .ref mneededOf, .int m_goShelf, .int m_goStack, .int m_goLeft, .ref mtried, .ref mbestRow, .int m_bestCost, .int m_bestMany, .int m_bestShelf, .int m_bestSet, .ref mdigits])), (mtold, .inl (cyI, 240, .inl m_told)), (mop, .inl (cyI, 2200, .inl m_op)), (marg, .inl (cyI, 2200, .inl m_arg)), (mstates, .inl (cyI, 2760, .inl m_states)), (misMarked, .inl (cyZ, 4, .inl m_isMarked))]) (pc2 := 11) (lv2 := [(0, .ref m0), (1, .int p0), (2, .int p1)]) (st2 := [.int (u_1.2.1 0)]) rfl rfl rfl rfl ?_
  obtain ⟨hw_2_0, hw_2_1, hw_2_2⟩ := hw_2
  have el_0 : (0 : Int32).toInt = 0 := rfl
  have el_3 : (3 : Int32).toInt = 3 := rfl
  refine j_if_eq (pc := 11) (tgt := 27) C dX11_mark_11 (by decide) (fun c_3 => ?_) (fun c_3 => ?_)
  · skip
    have el_0 : (0 : Int32).toInt = 0 := rfl
    rw [i_eq] at c_3
    refine j_iconst (pc := 27) (v := 0) C dX11_mark_27 (by decide) ?_
    have el_0 : (0 : Int32).toInt = 0 := rfl
    have el_0 : (0 : Int32).toInt = 0 := rfl
    exact j_zret (pc := 28) C hr rfl hk (fun i => [].getD i 0, fun i => [0].getD i 0, fun i => [m_states, m_isMarked].getD i (fun _ => 0), fun i => [].getD i (fun _ => 0)) rfl (show (0 ≤ ((0 : Int32)).toInt ∧ ((0 : Int32)).toInt ≤ 1) ∧ (SV m_states) ∧ (SI m_states m_told m_isMarked) from ⟨by omega, h_m_states, hSI⟩) [0, 1, 2, 3, 4, 5] (by decide) rfl (by decide) (by decide) dX11_mark_28
  · skip
    have el_0 : (0 : Int32).toInt = 0 := rfl
    rw [i_eq] at c_3
    have k0c_3 : ((u_1.2.1 0)).toInt = 1 := by omega
    refine j_iload_n (pc := 14) C dX11_mark_14 rfl 2 rfl ?_
    refine j_if_eq (pc := 15) (tgt := 29) C dX11_mark_15 (by decide) (fun c_4 => ?_) (fun c_4 => ?_)
    · skip
      have el_0 : (0 : Int32).toInt = 0 := rfl
      rw [i_eq] at c_4
      refine j_aload_n (pc := 29) C dX11_mark_29 rfl 0 rfl ?_
      refine j_get (pc := 30) (ci := 11) (v := .ref misMarked) C inw_11 0 rfl rfl 21 (by decide) wd_861 rfl rfl dX11_mark_30 ?_
      refine j_iload_n (pc := 33) C dX11_mark_33 rfl 1 rfl ?_
      refine j_iconst (pc := 34) (v := 1) C dX11_mark_34 (by decide) ?_
      obtain ⟨f_5, ef_5⟩ : ∃ z, z = upd m_isMarked (p0).toInt.toNat (vp_nar .boolean 1) := ⟨_, rfl⟩
      refine j_zast (pc := 35) (k := (p0).toInt.toNat) (ws' := [(m0, .inr (11, [.int 0, .ref mtape, .int m_taped, .int m_size, .ref msort, .ref mplace, .ref mvalue, .int m_at, .int m_fault, .ref mwords, .ref mtold, .ref mop, .ref marg, .int m_codes, .ref mnames, .ref mhasHabit, .int m_isNew, .ref mfactWords, .ref mfacts, .ref mpile, .ref mstates, .ref misMarked, .int m_inShelf, .int m_inStack, .int m_inPlace, .ref mrow, .int m_rowMany, .ref mthr, .ref mmays, .ref mtall, .ref mweights, .ref mrowOfWare, .ref mneededOf, .int m_goShelf, .int m_goStack, .int m_goLeft, .ref mtried, .ref mbestRow, .int m_bestCost, .int m_bestMany, .int m_bestShelf, .int m_bestSet, .ref mdigits])), (mtold, .inl (cyI, 240, .inl m_told)), (mop, .inl (cyI, 2200, .inl m_op)), (marg, .inl (cyI, 2200, .inl m_arg)), (mstates, .inl (cyI, 2760, .inl m_states)), (misMarked, .inl (cyZ, 4, .inl f_5))]) C 5 3 rfl rfl (i_nn (by omega)) rfl (i_lt_n (by omega) (by omega)) dX11_mark_35 (by rw [ef_5]; rfl) ?_
      refine j_aload_n (pc := 36) C dX11_mark_36 rfl 0 rfl ?_
      refine j_iload_n (pc := 37) C dX11_mark_37 rfl 2 rfl ?_
      have el_0 : (0 : Int32).toInt = 0 := rfl
      refine j_if_eq_t (pc := 38) (tgt := 47) C dX11_mark_38 (by decide) (by rw [i_eq]; omega) ?_
      refine j_iconst (pc := 47) (v := 0) C dX11_mark_47 (by decide) ?_
      refine j_iload_n (pc := 48) C dX11_mark_48 rfl 2 rfl ?_
      have el_0 : (0 : Int32).toInt = 0 := rfl
      refine j_if_eq_t (pc := 49) (tgt := 56) C dX11_mark_49 (by decide) (by rw [i_eq]; omega) ?_
      refine j_iconst (pc := 56) (v := 2) C dX11_mark_56 (by decide) ?_
      refine j_iload_n (pc := 57) C dX11_mark_57 rfl 1 rfl ?_
      obtain ⟨v_6, ev_6⟩ : ∃ z : Int32, 2 + p0 = z := ⟨_, rfl⟩
      have el_2 : (2 : Int32).toInt = 2 := rfl
      have hv_6 : v_6.toInt = (2 : Int32).toInt + p0.toInt := by rw [← ev_6]; exact fb_addI (by omega) (by omega)
      refine j_iadd (pc := 58) (v := v_6) C dX11_mark_58 ev_6 ?_
      refine j_callV (pc := 59) (As := [.int 0, .int v_6]) (rest := []) (wr := [(mtold, .inl (cyI, 240, .inl m_told)), (mop, .inl (cyI, 2200, .inl m_op)), (marg, .inl (cyI, 2200, .inl m_arg)), (misMarked, .inl (cyZ, 4, .inl f_5))]) C (c_X11_copies l D cyC cyI cyJ cyZ cyO m0 mstates mtape msort mplace mvalue mwords mtold mop marg mnames mhasHabit mfactWords mfacts mpile misMarked mrow mthr mmays mtall mweights mrowOfWare mneededOf mtried mbestRow mdigits 0 v_6 0 m_taped m_size m_at m_fault m_codes m_isNew m_inShelf m_inStack m_inPlace m_rowMany m_goShelf m_goStack m_goLeft m_bestCost m_bestMany m_bestShelf m_bestSet m_states (by omega) (by omega) (by omega) (by omega) (by omega) (by omega) (by omega) (by omega) (by omega) (by omega) (by omega) (by omega) (by omega) (by decide) (by omega) h_m_states (by omega)) wd_862 wd_624 wd_863 wd_864 wd_865 ⟨by decide, by decide, rfl⟩ rfl ⟨rfl, rfl, by decide, by decide⟩ ⟨by decide, by decide⟩ [0, 4] [1, 2, 3, 5] rfl rfl ⟨by decide, by decide, by decide⟩ 0 rfl rfl rfl (Nat.le_of_ble_eq_true rfl) dX11_mark_59 (fun u_7 hw_8 => ?_)
      refine j_eq (ws2 := [(mtold, .inl (cyI, 240, .inl m_told)), (mop, .inl (cyI, 2200, .inl m_op)), (marg, .inl (cyI, 2200, .inl m_arg)), (misMarked, .inl (cyZ, 4, .inl f_5)), (m0, .inr (11, [.int 0, .ref mtape, .int m_taped, .int m_size, .ref msort, .ref mplace, .ref mvalue, .int m_at, .int m_fault, .ref mwords, .ref mtold, .ref mop, .ref marg, .int m_codes, .ref mnames, .ref mhasHabit, .int m_isNew, .ref mfactWords, .ref mfacts, .ref mpile, .ref mstates, .ref misMarked, .int m_inShelf, .int m_inStack, .int m_inPlace, .ref mrow, .int m_rowMany, .ref mthr, .ref mmays, .ref mtall, .ref mweights, .ref mrowOfWare, .ref mneededOf, .int m_goShelf, .int m_goStack, .int m_goLeft, .ref mtried, .ref mbestRow, .int m_bestCost, .int m_bestMany, .int m_bestShelf, .int m_bestSet, .ref mdigits])), (mstates, .inl (cyI, 2760, .inl (u_7.2.2.1 0)))]) (pc2 := 62) (lv2 := [(0, .ref m0), (1, .int p0), (2, .int p1)]) (st2 := []) rfl rfl rfl rfl ?_
      obtain ⟨hw_8_0, hw_8_1, hw_8_2⟩ := hw_8
      refine j_iconst (pc := 62) (v := 1) C dX11_mark_62 (by decide) ?_
      have el_1 : (1 : Int32).toInt = 1 := rfl
      have el_1 : (1 : Int32).toInt = 1 := rfl
      exact j_zret (pc := 63) C hr rfl hk (fun i => [].getD i 0, fun i => [1].getD i 0, fun i => [(u_7.2.2.1 0), f_5].getD i (fun _ => 0), fun i => [].getD i (fun _ => 0)) rfl (show (0 ≤ ((1 : Int32)).toInt ∧ ((1 : Int32)).toInt ≤ 1) ∧ (SV (u_7.2.2.1 0)) ∧ (SI (u_7.2.2.1 0) m_told f_5) from ⟨by omega, hw_8_0, (by rw [ef_5]; exact SI.copy hSI (by decide) hw_8_1 hw_8_2 (by rw [show ((0 : Int32)).toInt.toNat = 0 from rfl]; exact hSI.2.1) (fun m h4 h1 h2 => by rw [pk_un (show ¬ m = (p0).toInt.toNat from (by omega))] at h1; exact h1))⟩) [4, 0, 1, 2, 5, 3] (by decide) rfl (by decide) (by decide) dX11_mark_63
    · skip
      have el_0 : (0 : Int32).toInt = 0 := rfl
      rw [i_eq] at c_4
      have k0c_4 : p1.toInt = 1 := by omega
      refine j_aload_n (pc := 18) C dX11_mark_18 rfl 0 rfl ?_
      refine j_get (pc := 19) (ci := 11) (v := .ref misMarked) C inw_11 0 rfl rfl 21 (by decide) wd_861 rfl rfl dX11_mark_19 ?_
      refine j_iload_n (pc := 22) C dX11_mark_22 rfl 1 rfl ?_
      obtain ⟨v_9, ev_9⟩ : ∃ z, m_isMarked (p0).toInt.toNat = z := ⟨_, rfl⟩
      have env_9 : (m_isMarked (p0).toInt.toNat).toInt = v_9.toInt := by rw [ev_9]
      refine j_zald (pc := 23) (v := v_9) (k := (p0).toInt.toNat) C 5 3 rfl rfl (i_nn (by omega)) rfl (i_lt_n (by omega) (by omega)) ev_9 dX11_mark_23 ?_
      refine j_if_ne (pc := 24) (tgt := 29) C dX11_mark_24 (by decide) (fun c_10 => ?_) (fun c_10 => ?_)
      · skip
        have el_0 : (0 : Int32).toInt = 0 := rfl
        rw [i_eq] at c_10
        refine j_aload_n (pc := 29) C dX11_mark_29 rfl 0 rfl ?_
        refine j_get (pc := 30) (ci := 11) (v := .ref misMarked) C inw_11 0 rfl rfl 21 (by decide) wd_861 rfl rfl dX11_mark_30 ?_
        refine j_iload_n (pc := 33) C dX11_mark_33 rfl 1 rfl ?_
        refine j_iconst (pc := 34) (v := 1) C dX11_mark_34 (by decide) ?_
        obtain ⟨f_11, ef_11⟩ : ∃ z, z = upd m_isMarked (p0).toInt.toNat (vp_nar .boolean 1) := ⟨_, rfl⟩
        refine j_zast (pc := 35) (k := (p0).toInt.toNat) (ws' := [(m0, .inr (11, [.int 0, .ref mtape, .int m_taped, .int m_size, .ref msort, .ref mplace, .ref mvalue, .int m_at, .int m_fault, .ref mwords, .ref mtold, .ref mop, .ref marg, .int m_codes, .ref mnames, .ref mhasHabit, .int m_isNew, .ref mfactWords, .ref mfacts, .ref mpile, .ref mstates, .ref misMarked, .int m_inShelf, .int m_inStack, .int m_inPlace, .ref mrow, .int m_rowMany, .ref mthr, .ref mmays, .ref mtall, .ref mweights, .ref mrowOfWare, .ref mneededOf, .int m_goShelf, .int m_goStack, .int m_goLeft, .ref mtried, .ref mbestRow, .int m_bestCost, .int m_bestMany, .int m_bestShelf, .int m_bestSet, .ref mdigits])), (mtold, .inl (cyI, 240, .inl m_told)), (mop, .inl (cyI, 2200, .inl m_op)), (marg, .inl (cyI, 2200, .inl m_arg)), (mstates, .inl (cyI, 2760, .inl m_states)), (misMarked, .inl (cyZ, 4, .inl f_11))]) C 5 3 rfl rfl (i_nn (by omega)) rfl (i_lt_n (by omega) (by omega)) dX11_mark_35 (by rw [ef_11]; rfl) ?_
        refine j_aload_n (pc := 36) C dX11_mark_36 rfl 0 rfl ?_
        refine j_iload_n (pc := 37) C dX11_mark_37 rfl 2 rfl ?_
        have el_0 : (0 : Int32).toInt = 0 := rfl
        refine j_if_eq_f (pc := 38) (tgt := 47) C dX11_mark_38 (by decide) (by rw [i_eq]; omega) ?_
        refine j_iconst (pc := 41) (v := 2) C dX11_mark_41 (by decide) ?_
        refine j_iload_n (pc := 42) C dX11_mark_42 rfl 1 rfl ?_
        obtain ⟨v_12, ev_12⟩ : ∃ z : Int32, 2 + p0 = z := ⟨_, rfl⟩
        have el_2 : (2 : Int32).toInt = 2 := rfl
        have hv_12 : v_12.toInt = (2 : Int32).toInt + p0.toInt := by rw [← ev_12]; exact fb_addI (by omega) (by omega)
        refine j_iadd (pc := 43) (v := v_12) C dX11_mark_43 ev_12 ?_
        refine j_goto (pc := 44) (tgt := 48) C dX11_mark_44 (by decide) ?_
        refine j_iload_n (pc := 48) C dX11_mark_48 rfl 2 rfl ?_
        have el_0 : (0 : Int32).toInt = 0 := rfl
        refine j_if_eq_f (pc := 49) (tgt := 56) C dX11_mark_49 (by decide) (by rw [i_eq]; omega) ?_
        refine j_iconst (pc := 52) (v := 0) C dX11_mark_52 (by decide) ?_
        refine j_goto (pc := 53) (tgt := 59) C dX11_mark_53 (by decide) ?_
        refine j_callV (pc := 59) (As := [.int v_12, .int 0]) (rest := []) (wr := [(mtold, .inl (cyI, 240, .inl m_told)), (mop, .inl (cyI, 2200, .inl m_op)), (marg, .inl (cyI, 2200, .inl m_arg)), (misMarked, .inl (cyZ, 4, .inl f_11))]) C (c_X11_copies l D cyC cyI cyJ cyZ cyO m0 mstates mtape msort mplace mvalue mwords mtold mop marg mnames mhasHabit mfactWords mfacts mpile misMarked mrow mthr mmays mtall mweights mrowOfWare mneededOf mtried mbestRow mdigits v_12 0 0 m_taped m_size m_at m_fault m_codes m_isNew m_inShelf m_inStack m_inPlace m_rowMany m_goShelf m_goStack m_goLeft m_bestCost m_bestMany m_bestShelf m_bestSet m_states (by omega) (by omega) (by omega) (by omega) (by omega) (by omega) (by omega) (by omega) (by omega) (by omega) (by omega) (by omega) (by omega) (by omega) (by decide) h_m_states (by omega)) wd_862 wd_624 wd_863 wd_864 wd_865 ⟨by decide, by decide, rfl⟩ rfl ⟨rfl, rfl, by decide, by decide⟩ ⟨by decide, by decide⟩ [0, 4] [1, 2, 3, 5] rfl rfl ⟨by decide, by decide, by decide⟩ 0 rfl rfl rfl (Nat.le_of_ble_eq_true rfl) dX11_mark_59 (fun u_13 hw_14 => ?_)
        refine j_eq (ws2 := [(mtold, .inl (cyI, 240, .inl m_told)), (mop, .inl (cyI, 2200, .inl m_op)), (marg, .inl (cyI, 2200, .inl m_arg)), (misMarked, .inl (cyZ, 4, .inl f_11)), (m0, .inr (11, [.int 0, .ref mtape, .int m_taped, .int m_size, .ref msort, .ref mplace, .ref mvalue, .int m_at, .int m_fault, .ref mwords, .ref mtold, .ref mop, .ref marg, .int m_codes, .ref mnames, .ref mhasHabit, .int m_isNew, .ref mfactWords, .ref mfacts, .ref mpile, .ref mstates, .ref misMarked, .int m_inShelf, .int m_inStack, .int m_inPlace, .ref mrow, .int m_rowMany, .ref mthr, .ref mmays, .ref mtall, .ref mweights, .ref mrowOfWare, .ref mneededOf, .int m_goShelf, .int m_goStack, .int m_goLeft, .ref mtried, .ref mbestRow, .int m_bestCost, .int m_bestMany, .int m_bestShelf, .int m_bestSet, .ref mdigits])), (mstates, .inl (cyI, 2760, .inl (u_13.2.2.1 0)))]) (pc2 := 62) (lv2 := [(0, .ref m0), (1, .int p0), (2, .int p1)]) (st2 := []) rfl rfl rfl rfl ?_
        obtain ⟨hw_14_0, hw_14_1, hw_14_2⟩ := hw_14
        refine j_iconst (pc := 62) (v := 1) C dX11_mark_62 (by decide) ?_
        have el_1 : (1 : Int32).toInt = 1 := rfl
        have el_1 : (1 : Int32).toInt = 1 := rfl
        exact j_zret (pc := 63) C hr rfl hk (fun i => [].getD i 0, fun i => [1].getD i 0, fun i => [(u_13.2.2.1 0), f_11].getD i (fun _ => 0), fun i => [].getD i (fun _ => 0)) rfl (show (0 ≤ ((1 : Int32)).toInt ∧ ((1 : Int32)).toInt ≤ 1) ∧ (SV (u_13.2.2.1 0)) ∧ (SI (u_13.2.2.1 0) m_told f_11) from ⟨by omega, hw_14_0, (by rw [ef_11]; exact SI.copy hSI (by omega) hw_14_1 hw_14_2 (by rw [show (v_12).toInt.toNat = 2 + (p0).toInt.toNat from (by omega)]; exact hSI.2.2 _ (by omega) (by rw [ev_9]; omega)) (fun m h4 h1 h2 => by by_cases e : m = (p0).toInt.toNat; (rw [e]; exact (by rw [ev_9]; omega)); (rw [pk_un e] at h1; exact h1)))⟩) [4, 0, 1, 2, 5, 3] (by decide) rfl (by decide) (by decide) dX11_mark_63
      · skip
        have el_0 : (0 : Int32).toInt = 0 := rfl
        rw [i_eq] at c_10
        refine j_iconst (pc := 27) (v := 0) C dX11_mark_27 (by decide) ?_
        have el_0 : (0 : Int32).toInt = 0 := rfl
        have el_0 : (0 : Int32).toInt = 0 := rfl
        exact j_zret (pc := 28) C hr rfl hk (fun i => [].getD i 0, fun i => [0].getD i 0, fun i => [m_states, m_isMarked].getD i (fun _ => 0), fun i => [].getD i (fun _ => 0)) rfl (show (0 ≤ ((0 : Int32)).toInt ∧ ((0 : Int32)).toInt ≤ 1) ∧ (SV m_states) ∧ (SI m_states m_told m_isMarked) from ⟨by omega, h_m_states, hSI⟩) [0, 1, 2, 3, 4, 5] (by decide) rfl (by decide) (by decide) dX11_mark_28
set_option maxHeartbeats 4000000 in
set_option maxRecDepth 100000 in
theorem c_X11_ask (l : Launch) (D : DG) (cyC cyI cyJ cyZ cyO : ClassId) (m0 : Nat) (mtold : Nat) (mop : Nat) (marg : Nat) (mstates : Nat) (misMarked : Nat) (mtape : Nat) (msort : Nat) (mplace : Nat) (mvalue : Nat) (mwords : Nat) (mnames : Nat) (mhasHabit : Nat) (mfactWords : Nat) (mfacts : Nat) (mpile : Nat) (mrow : Nat) (mthr : Nat) (mmays : Nat) (mtall : Nat) (mweights : Nat) (mrowOfWare : Nat) (mneededOf : Nat) (mtried : Nat) (mbestRow : Nat) (mdigits : Nat) (p0 : Int32) (m_thrown : Int32) (m_taped : Int32) (m_size : Int32) (m_at : Int32) (m_fault : Int32) (m_codes : Int32) (m_isNew : Int32) (m_inShelf : Int32) (m_inStack : Int32) (m_inPlace : Int32) (m_rowMany : Int32) (m_goShelf : Int32) (m_goStack : Int32) (m_goLeft : Int32) (m_bestCost : Int32) (m_bestMany : Int32) (m_bestShelf : Int32) (m_bestSet : Int32) (m_told : Nat → Int32) (m_op : Nat → Int32) (m_arg : Nat → Int32) (m_states : Nat → Int32) (m_isMarked : Nat → Int32) (h_m_taped : 0 ≤ (m_taped).toInt ∧ (m_taped).toInt ≤ 1000) (h_m_size : 0 ≤ (m_size).toInt ∧ (m_size).toInt ≤ 1000) (h_m_at : 0 ≤ (m_at).toInt ∧ (m_at).toInt ≤ 1000) (h_m_fault : 0 ≤ (m_fault).toInt ∧ (m_fault).toInt ≤ 16005) (h_m_codes : 0 ≤ (m_codes).toInt ∧ (m_codes).toInt ≤ 1000) (h_m_isNew : 0 ≤ (m_isNew).toInt ∧ (m_isNew).toInt ≤ 1) (h_m_inShelf : 0 ≤ (m_inShelf).toInt ∧ (m_inShelf).toInt ≤ 3) (h_m_inStack : 0 ≤ (m_inStack).toInt ∧ (m_inStack).toInt ≤ 7) (h_m_inPlace : 0 ≤ (m_inPlace).toInt ∧ (m_inPlace).toInt ≤ 11) (h_m_rowMany : 0 ≤ (m_rowMany).toInt ∧ (m_rowMany).toInt ≤ 12) (h_m_goShelf : -1 ≤ (m_goShelf).toInt ∧ (m_goShelf).toInt ≤ 3) (h_m_bestMany : 0 ≤ (m_bestMany).toInt ∧ (m_bestMany).toInt ≤ 7) (h_m_bestShelf : 0 ≤ (m_bestShelf).toInt ∧ (m_bestShelf).toInt ≤ 3) (h_m_told : TV m_told) (h_m_states : SV m_states) (hSI : SI m_states m_told m_isMarked) : KK l D (TY cyC cyI cyJ cyZ cyO) yX11_ask cX11_ask 2 (some .int) ({ frames := 2, cells := 0, slots := 0, locals := 41 } : Room) 0 0 [.ref m0, .int p0] [(m0, .inr (11, [.int m_thrown, .ref mtape, .int m_taped, .int m_size, .ref msort, .ref mplace, .ref mvalue, .int m_at, .int m_fault, .ref mwords, .ref mtold, .ref mop, .ref marg, .int m_codes, .ref mnames, .ref mhasHabit, .int m_isNew, .ref mfactWords, .ref mfacts, .ref mpile, .ref mstates, .ref misMarked, .int m_inShelf, .int m_inStack, .int m_inPlace, .ref mrow, .int m_rowMany, .ref mthr, .ref mmays, .ref mtall, .ref mweights, .ref mrowOfWare, .ref mneededOf, .int m_goShelf, .int m_goStack, .int m_goLeft, .ref mtried, .ref mbestRow, .int m_bestCost, .int m_bestMany, .int m_bestShelf, .int m_bestSet, .ref mdigits])), (mtold, .inl (cyI, 240, .inl m_told)), (mop, .inl (cyI, 2200, .inl m_op)), (marg, .inl (cyI, 2200, .inl m_arg)), (mstates, .inl (cyI, 2760, .inl m_states)), (misMarked, .inl (cyZ, 4, .inl m_isMarked))] (fun u => some (.int (u.2.1 0))) (fun u => (SV (u.2.2.1 0)) ∧ (SI (u.2.2.1 0) m_told m_isMarked)) (fun u => [(m0, .inr (11, [.int 0, .ref mtape, .int m_taped, .int m_size, .ref msort, .ref mplace, .ref mvalue, .int m_at, .int m_fault, .ref mwords, .ref mtold, .ref mop, .ref marg, .int m_codes, .ref mnames, .ref mhasHabit, .int m_isNew, .ref mfactWords, .ref mfacts, .ref mpile, .ref mstates, .ref misMarked, .int m_inShelf, .int m_inStack, .int m_inPlace, .ref mrow, .int m_rowMany, .ref mthr, .ref mmays, .ref mtall, .ref mweights, .ref mrowOfWare, .ref mneededOf, .int m_goShelf, .int m_goStack, .int m_goLeft, .ref mtried, .ref mbestRow, .int m_bestCost, .int m_bestMany, .int m_bestShelf, .int m_bestSet, .ref mdigits])), (mtold, .inl (cyI, 240, .inl m_told)), (mop, .inl (cyI, 2200, .inl m_op)), (marg, .inl (cyI, 2200, .inl m_arg)), (mstates, .inl (cyI, 2760, .inl (u.2.2.1 0))), (misMarked, .inl (cyZ, 4, .inl m_isMarked))]) := by
  refine KK.of (lv0 := [(0, .ref m0), (1, .int p0)]) (by decide) rfl (Nat.le_of_ble_eq_true rfl) ?_
  intro p e s m args below meth c A C hr hk hin
  refine j_aload_n (pc := 0) C dX11_ask_0 rfl 0 rfl ?_
  refine j_iconst (pc := 1) (v := 0) C dX11_ask_1 (by decide) ?_
  refine j_put (pc := 2) (ci := 11) (v := .int 0) (ws' := [(m0, .inr (11, [.int 0, .ref mtape, .int m_taped, .int m_size, .ref msort, .ref mplace, .ref mvalue, .int m_at, .int m_fault, .ref mwords, .ref mtold, .ref mop, .ref marg, .int m_codes, .ref mnames, .ref mhasHabit, .int m_isNew, .ref mfactWords, .ref mfacts, .ref mpile, .ref mstates, .ref misMarked, .int m_inShelf, .int m_inStack, .int m_inPlace, .ref mrow, .int m_rowMany, .ref mthr, .ref mmays, .ref mtall, .ref mweights, .ref mrowOfWare, .ref mneededOf, .int m_goShelf, .int m_goStack, .int m_goLeft, .ref mtried, .ref mbestRow, .int m_bestCost, .int m_bestMany, .int m_bestShelf, .int m_bestSet, .ref mdigits])), (mtold, .inl (cyI, 240, .inl m_told)), (mop, .inl (cyI, 2200, .inl m_op)), (marg, .inl (cyI, 2200, .inl m_arg)), (mstates, .inl (cyI, 2760, .inl m_states)), (misMarked, .inl (cyZ, 4, .inl m_isMarked))]) C inw_11 0 rfl rfl 0 (by decide) wd_629 rfl tyX11_ok nmX11 rfl (tyX11_ok 0 (by decide)) rfl rfl (Nat.le_of_ble_eq_true rfl) dX11_ask_2 rfl ?_
  refine j_aload_n (pc := 5) C dX11_ask_5 rfl 0 rfl ?_
  refine j_iload_n (pc := 6) C dX11_ask_6 rfl 1 rfl ?_
  refine j_callV (pc := 7) (As := [.int p0]) (rest := []) (wr := [(mop, .inl (cyI, 2200, .inl m_op)), (marg, .inl (cyI, 2200, .inl m_arg)), (mstates, .inl (cyI, 2760, .inl m_states)), (misMarked, .inl (cyZ, 4, .inl m_isMarked))]) C (c_X11_isWare l D cyC cyI cyJ cyZ cyO m0 mtold mtape msort mplace mvalue mwords mop marg mnames mhasHabit mfactWords mfacts mpile mstates misMarked mrow mthr mmays mtall mweights mrowOfWare mneededOf mtried mbestRow mdigits p0 0 m_taped m_size m_at m_fault m_codes m_isNew m_inShelf m_inStack m_inPlace m_rowMany m_goShelf m_goStack m_goLeft m_bestCost m_bestMany m_bestShelf m_bestSet m_told (by omega) (by omega) (by omega) (by omega) (by omega) (by omega) (by omega) (by omega) (by omega) (by omega) (by omega) (by omega) (by omega) h_m_told) wd_814 wd_624 wd_815 wd_816 wd_817 ⟨by decide, by decide, rfl⟩ rfl ⟨rfl, rfl, by decide, by decide⟩ ⟨by decide, by decide⟩ [0, 1] [2, 3, 4, 5] rfl rfl ⟨by decide, by decide, by decide⟩ 0 rfl rfl rfl (Nat.le_of_ble_eq_true rfl) dX11_ask_7 (fun u_1 hw_2 => ?_)
  refine j_eq (ws2 := [(mop, .inl (cyI, 2200, .inl m_op)), (marg, .inl (cyI, 2200, .inl m_arg)), (mstates, .inl (cyI, 2760, .inl m_states)), (misMarked, .inl (cyZ, 4, .inl m_isMarked)), (m0, .inr (11, [.int 0, .ref mtape, .int m_taped, .int m_size, .ref msort, .ref mplace, .ref mvalue, .int m_at, .int m_fault, .ref mwords, .ref mtold, .ref mop, .ref marg, .int m_codes, .ref mnames, .ref mhasHabit, .int m_isNew, .ref mfactWords, .ref mfacts, .ref mpile, .ref mstates, .ref misMarked, .int m_inShelf, .int m_inStack, .int m_inPlace, .ref mrow, .int m_rowMany, .ref mthr, .ref mmays, .ref mtall, .ref mweights, .ref mrowOfWare, .ref mneededOf, .int m_goShelf, .int m_goStack, .int m_goLeft, .ref mtried, .ref mbestRow, .int m_bestCost, .int m_bestMany, .int m_bestShelf, .int m_bestSet, .ref mdigits])), (mtold, .inl (cyI, 240, .inl m_told))]) (pc2 := 10) (lv2 := [(0, .ref m0), (1, .int p0)]) (st2 := [.int (u_1.2.1 0)]) rfl rfl rfl rfl ?_
  obtain ⟨hw_2_0, hw_2_1, hw_2_2⟩ := hw_2
  refine j_if_eq (pc := 10) (tgt := 22) C dX11_ask_10 (by decide) (fun c_3 => ?_) (fun c_3 => ?_)
  · skip
    have el_0 : (0 : Int32).toInt = 0 := rfl
    rw [i_eq] at c_3
    refine j_iconst (pc := 22) (v := (-1)) C dX11_ask_22 (by decide) ?_
    have el_m1 : ((-1) : Int32).toInt = (-1) := rfl
    exact j_iret (pc := 23) C hr hk (fun i => [].getD i 0, fun i => [(-1)].getD i 0, fun i => [m_states].getD i (fun _ => 0), fun i => [].getD i (fun _ => 0)) rfl (show (SV m_states) ∧ (SI m_states m_told m_isMarked) from ⟨h_m_states, hSI⟩) [4, 5, 0, 1, 2, 3] (by decide) rfl (by decide) (by decide) dX11_ask_23
  · skip
    have el_0 : (0 : Int32).toInt = 0 := rfl
    rw [i_eq] at c_3
    have k0c_3 : ((u_1.2.1 0)).toInt = 1 := by omega
    refine j_aload_n (pc := 13) C dX11_ask_13 rfl 0 rfl ?_
    refine j_callV (pc := 14) (As := []) (rest := []) (wr := [(mop, .inl (cyI, 2200, .inl m_op)), (marg, .inl (cyI, 2200, .inl m_arg)), (misMarked, .inl (cyZ, 4, .inl m_isMarked)), (mtold, .inl (cyI, 240, .inl m_told))]) C (c_X11_asks l D cyC cyI cyJ cyZ cyO m0 mstates mtape msort mplace mvalue mwords mtold mop marg mnames mhasHabit mfactWords mfacts mpile misMarked mrow mthr mmays mtall mweights mrowOfWare mneededOf mtried mbestRow mdigits 0 m_taped m_size m_at m_fault m_codes m_isNew m_inShelf m_inStack m_inPlace m_rowMany m_goShelf m_goStack m_goLeft m_bestCost m_bestMany m_bestShelf m_bestSet m_states (by omega) (by omega) (by omega) (by omega) (by omega) (by omega) (by omega) (by omega) (by omega) (by omega) (by omega) (by omega) (by omega) h_m_states) wd_833 wd_624 wd_834 wd_835 wd_836 ⟨by decide, by decide, rfl⟩ rfl ⟨rfl, rfl, by decide, by decide⟩ ⟨by decide, by decide⟩ [4, 2] [0, 1, 3, 5] rfl rfl ⟨by decide, by decide, by decide⟩ 4 rfl rfl rfl (Nat.le_of_ble_eq_true rfl) dX11_ask_14 (fun u_4 hw_5 => ?_)
    refine j_eq (ws2 := [(mop, .inl (cyI, 2200, .inl m_op)), (marg, .inl (cyI, 2200, .inl m_arg)), (misMarked, .inl (cyZ, 4, .inl m_isMarked)), (mtold, .inl (cyI, 240, .inl m_told)), (m0, .inr (11, [.int 0, .ref mtape, .int m_taped, .int m_size, .ref msort, .ref mplace, .ref mvalue, .int m_at, .int m_fault, .ref mwords, .ref mtold, .ref mop, .ref marg, .int m_codes, .ref mnames, .ref mhasHabit, .int m_isNew, .ref mfactWords, .ref mfacts, .ref mpile, .ref mstates, .ref misMarked, .int m_inShelf, .int m_inStack, .int m_inPlace, .ref mrow, .int m_rowMany, .ref mthr, .ref mmays, .ref mtall, .ref mweights, .ref mrowOfWare, .ref mneededOf, .int m_goShelf, .int m_goStack, .int m_goLeft, .ref mtried, .ref mbestRow, .int m_bestCost, .int m_bestMany, .int m_bestShelf, .int m_bestSet, .ref mdigits])), (mstates, .inl (cyI, 2760, .inl m_states))]) (pc2 := 17) (lv2 := [(0, .ref m0), (1, .int p0)]) (st2 := [.int (u_4.2.1 0)]) rfl rfl rfl rfl ?_
    obtain ⟨hw_5_0, hw_5_1⟩ := hw_5
    refine j_bipush (pc := 17) (v := 30) C dX11_ask_17 (by decide) ?_
    refine j_icmp_ne (pc := 19) (tgt := 24) C dX11_ask_19 (by decide) (fun c_6 => ?_) (fun c_6 => ?_)
    · skip
      have el_30 : (30 : Int32).toInt = 30 := rfl
      rw [i_eq] at c_6
      refine j_aload_n (pc := 24) C dX11_ask_24 rfl 0 rfl ?_
      refine j_get (pc := 25) (ci := 11) (v := .ref mstates) C inw_11 4 rfl rfl 20 (by decide) wd_764 rfl rfl dX11_ask_25 ?_
      refine j_sipush (pc := 28) (v := 422) C dX11_ask_28 (by decide) ?_
      refine j_aload_n (pc := 31) C dX11_ask_31 rfl 0 rfl ?_
      refine j_callV (pc := 32) (As := []) (rest := [.int 422, .ref mstates]) (wr := [(mop, .inl (cyI, 2200, .inl m_op)), (marg, .inl (cyI, 2200, .inl m_arg)), (misMarked, .inl (cyZ, 4, .inl m_isMarked)), (mtold, .inl (cyI, 240, .inl m_told))]) C (c_X11_asks l D cyC cyI cyJ cyZ cyO m0 mstates mtape msort mplace mvalue mwords mtold mop marg mnames mhasHabit mfactWords mfacts mpile misMarked mrow mthr mmays mtall mweights mrowOfWare mneededOf mtried mbestRow mdigits 0 m_taped m_size m_at m_fault m_codes m_isNew m_inShelf m_inStack m_inPlace m_rowMany m_goShelf m_goStack m_goLeft m_bestCost m_bestMany m_bestShelf m_bestSet m_states (by omega) (by omega) (by omega) (by omega) (by omega) (by omega) (by omega) (by omega) (by omega) (by omega) (by omega) (by omega) (by omega) h_m_states) wd_833 wd_624 wd_834 wd_835 wd_836 ⟨by decide, by decide, rfl⟩ rfl ⟨rfl, rfl, by decide, by decide⟩ ⟨by decide, by decide⟩ [4, 5] [0, 1, 2, 3] rfl rfl ⟨by decide, by decide, by decide⟩ 4 rfl rfl rfl (Nat.le_of_ble_eq_true rfl) dX11_ask_32 (fun u_7 hw_8 => ?_)
      refine j_eq (ws2 := [(mop, .inl (cyI, 2200, .inl m_op)), (marg, .inl (cyI, 2200, .inl m_arg)), (misMarked, .inl (cyZ, 4, .inl m_isMarked)), (mtold, .inl (cyI, 240, .inl m_told)), (m0, .inr (11, [.int 0, .ref mtape, .int m_taped, .int m_size, .ref msort, .ref mplace, .ref mvalue, .int m_at, .int m_fault, .ref mwords, .ref mtold, .ref mop, .ref marg, .int m_codes, .ref mnames, .ref mhasHabit, .int m_isNew, .ref mfactWords, .ref mfacts, .ref mpile, .ref mstates, .ref misMarked, .int m_inShelf, .int m_inStack, .int m_inPlace, .ref mrow, .int m_rowMany, .ref mthr, .ref mmays, .ref mtall, .ref mweights, .ref mrowOfWare, .ref mneededOf, .int m_goShelf, .int m_goStack, .int m_goLeft, .ref mtried, .ref mbestRow, .int m_bestCost, .int m_bestMany, .int m_bestShelf, .int m_bestSet, .ref mdigits])), (mstates, .inl (cyI, 2760, .inl m_states))]) (pc2 := 35) (lv2 := [(0, .ref m0), (1, .int p0)]) (st2 := [.int (u_7.2.1 0), .int 422, .ref mstates]) rfl rfl rfl rfl ?_
      obtain ⟨hw_8_0, hw_8_1⟩ := hw_8
      have hv9 := congrArg Int32.toInt (hw_5_1.trans hw_8_1.symm)
      obtain ⟨v_9, ev_9⟩ : ∃ z : Int32, 422 + (u_7.2.1 0) = z := ⟨_, rfl⟩
      have el_422 : (422 : Int32).toInt = 422 := rfl
      have hv_9 : v_9.toInt = (422 : Int32).toInt + ((u_7.2.1 0)).toInt := by rw [← ev_9]; exact fb_addI (by omega) (by omega)
      refine j_iadd (pc := 35) (v := v_9) C dX11_ask_35 ev_9 ?_
      refine j_iload_n (pc := 36) C dX11_ask_36 rfl 1 rfl ?_
      obtain ⟨f_10, ef_10⟩ : ∃ z, z = upd m_states (v_9).toInt.toNat p0 := ⟨_, rfl⟩
      have hf_10 : SV f_10 := by rw [ef_10]; exact SV.uask (b := 0) h_m_states (by decide) (by omega) (by omega) (by omega)
      refine j_iast (pc := 37) (k := (v_9).toInt.toNat) (ws' := [(mop, .inl (cyI, 2200, .inl m_op)), (marg, .inl (cyI, 2200, .inl m_arg)), (misMarked, .inl (cyZ, 4, .inl m_isMarked)), (mtold, .inl (cyI, 240, .inl m_told)), (m0, .inr (11, [.int 0, .ref mtape, .int m_taped, .int m_size, .ref msort, .ref mplace, .ref mvalue, .int m_at, .int m_fault, .ref mwords, .ref mtold, .ref mop, .ref marg, .int m_codes, .ref mnames, .ref mhasHabit, .int m_isNew, .ref mfactWords, .ref mfacts, .ref mpile, .ref mstates, .ref misMarked, .int m_inShelf, .int m_inStack, .int m_inPlace, .ref mrow, .int m_rowMany, .ref mthr, .ref mmays, .ref mtall, .ref mweights, .ref mrowOfWare, .ref mneededOf, .int m_goShelf, .int m_goStack, .int m_goLeft, .ref mtried, .ref mbestRow, .int m_bestCost, .int m_bestMany, .int m_bestShelf, .int m_bestSet, .ref mdigits])), (mstates, .inl (cyI, 2760, .inl f_10))]) C 5 1 rfl rfl (i_nn (by omega)) rfl (i_lt_n (by omega) (by omega)) dX11_ask_37 (by rw [ef_10]; rfl) ?_
      refine j_aload_n (pc := 38) C dX11_ask_38 rfl 0 rfl ?_
      refine j_get (pc := 39) (ci := 11) (v := .ref mstates) C inw_11 4 rfl rfl 20 (by decide) wd_764 rfl rfl dX11_ask_39 ?_
      refine j_sipush (pc := 42) (v := 421) C dX11_ask_42 (by decide) ?_
      refine j_dup2 (pc := 45) C dX11_ask_45 rfl rfl ?_
      obtain ⟨v_11, ev_11⟩ : ∃ z, f_10 421 = z := ⟨_, rfl⟩
      have env_11 : (f_10 421).toInt = v_11.toInt := by rw [ev_11]
      have hv_11 : 0 ≤ v_11.toInt ∧ v_11.toInt ≤ 30 := by rw [← ev_11]; exact SV.asks (b := 0) hf_10 (by decide) (by omega)
      refine j_iald (pc := 46) (v := v_11) (k := 421) C 5 1 rfl rfl (by decide) (by decide) (by decide) ev_11 dX11_ask_46 ?_
      have hv8 : v_11 = (u_7.2.1 0) := by rw [← ev_11, ef_10, pk_un (show ¬ 421 = (v_9).toInt.toNat from (by omega))]; exact hw_8_1.symm
      have hv7 := congrArg Int32.toInt hv8
      have hv6 := congrArg Int32.toInt (hw_5_1.trans hw_8_1.symm)
      refine j_iconst (pc := 47) (v := 1) C dX11_ask_47 (by decide) ?_
      obtain ⟨v_12, ev_12⟩ : ∃ z : Int32, v_11 + 1 = z := ⟨_, rfl⟩
      have el_1 : (1 : Int32).toInt = 1 := rfl
      have hv_12 : v_12.toInt = v_11.toInt + (1 : Int32).toInt := by rw [← ev_12]; exact fb_addI (by omega) (by omega)
      refine j_iadd (pc := 48) (v := v_12) C dX11_ask_48 ev_12 ?_
      obtain ⟨f_13, ef_13⟩ : ∃ z, z = upd f_10 421 v_12 := ⟨_, rfl⟩
      have hf_13 : SV f_13 := by rw [ef_13]; exact SV.uasks (b := 0) hf_10 (by decide) (by omega) (by omega)
      refine j_iast (pc := 49) (k := 421) (ws' := [(mop, .inl (cyI, 2200, .inl m_op)), (marg, .inl (cyI, 2200, .inl m_arg)), (misMarked, .inl (cyZ, 4, .inl m_isMarked)), (mtold, .inl (cyI, 240, .inl m_told)), (m0, .inr (11, [.int 0, .ref mtape, .int m_taped, .int m_size, .ref msort, .ref mplace, .ref mvalue, .int m_at, .int m_fault, .ref mwords, .ref mtold, .ref mop, .ref marg, .int m_codes, .ref mnames, .ref mhasHabit, .int m_isNew, .ref mfactWords, .ref mfacts, .ref mpile, .ref mstates, .ref misMarked, .int m_inShelf, .int m_inStack, .int m_inPlace, .ref mrow, .int m_rowMany, .ref mthr, .ref mmays, .ref mtall, .ref mweights, .ref mrowOfWare, .ref mneededOf, .int m_goShelf, .int m_goStack, .int m_goLeft, .ref mtried, .ref mbestRow, .int m_bestCost, .int m_bestMany, .int m_bestShelf, .int m_bestSet, .ref mdigits])), (mstates, .inl (cyI, 2760, .inl f_13))]) C 5 1 rfl rfl (by decide) (by decide) (by decide) dX11_ask_49 (by rw [ef_13]; rfl) ?_
      refine j_aload_n (pc := 50) C dX11_ask_50 rfl 0 rfl ?_
      refine j_callV (pc := 51) (As := []) (rest := []) (wr := [(mop, .inl (cyI, 2200, .inl m_op)), (marg, .inl (cyI, 2200, .inl m_arg)), (misMarked, .inl (cyZ, 4, .inl m_isMarked)), (mtold, .inl (cyI, 240, .inl m_told))]) C (c_X11_asks l D cyC cyI cyJ cyZ cyO m0 mstates mtape msort mplace mvalue mwords mtold mop marg mnames mhasHabit mfactWords mfacts mpile misMarked mrow mthr mmays mtall mweights mrowOfWare mneededOf mtried mbestRow mdigits 0 m_taped m_size m_at m_fault m_codes m_isNew m_inShelf m_inStack m_inPlace m_rowMany m_goShelf m_goStack m_goLeft m_bestCost m_bestMany m_bestShelf m_bestSet f_13 (by omega) (by omega) (by omega) (by omega) (by omega) (by omega) (by omega) (by omega) (by omega) (by omega) (by omega) (by omega) (by omega) hf_13) wd_833 wd_624 wd_834 wd_835 wd_836 ⟨by decide, by decide, rfl⟩ rfl ⟨rfl, rfl, by decide, by decide⟩ ⟨by decide, by decide⟩ [4, 5] [0, 1, 2, 3] rfl rfl ⟨by decide, by decide, by decide⟩ 4 rfl rfl rfl (Nat.le_of_ble_eq_true rfl) dX11_ask_51 (fun u_14 hw_15 => ?_)
      refine j_eq (ws2 := [(mop, .inl (cyI, 2200, .inl m_op)), (marg, .inl (cyI, 2200, .inl m_arg)), (misMarked, .inl (cyZ, 4, .inl m_isMarked)), (mtold, .inl (cyI, 240, .inl m_told)), (m0, .inr (11, [.int 0, .ref mtape, .int m_taped, .int m_size, .ref msort, .ref mplace, .ref mvalue, .int m_at, .int m_fault, .ref mwords, .ref mtold, .ref mop, .ref marg, .int m_codes, .ref mnames, .ref mhasHabit, .int m_isNew, .ref mfactWords, .ref mfacts, .ref mpile, .ref mstates, .ref misMarked, .int m_inShelf, .int m_inStack, .int m_inPlace, .ref mrow, .int m_rowMany, .ref mthr, .ref mmays, .ref mtall, .ref mweights, .ref mrowOfWare, .ref mneededOf, .int m_goShelf, .int m_goStack, .int m_goLeft, .ref mtried, .ref mbestRow, .int m_bestCost, .int m_bestMany, .int m_bestShelf, .int m_bestSet, .ref mdigits])), (mstates, .inl (cyI, 2760, .inl f_13))]) (pc2 := 54) (lv2 := [(0, .ref m0), (1, .int p0)]) (st2 := [.int (u_14.2.1 0)]) rfl rfl rfl rfl ?_
      obtain ⟨hw_15_0, hw_15_1⟩ := hw_15
      exact j_iret (pc := 54) C hr hk (fun i => [].getD i 0, fun i => [(u_14.2.1 0)].getD i 0, fun i => [f_13].getD i (fun _ => 0), fun i => [].getD i (fun _ => 0)) rfl (show (SV f_13) ∧ (SI f_13 m_told m_isMarked) from ⟨hf_13, (by rw [ef_13, ef_10]; exact (SI.tail (SI.tail hSI (by omega)) (by omega)))⟩) [4, 3, 0, 1, 5, 2] (by decide) rfl (by decide) (by decide) dX11_ask_54
    · skip
      have el_30 : (30 : Int32).toInt = 30 := rfl
      rw [i_eq] at c_6
      refine j_iconst (pc := 22) (v := (-1)) C dX11_ask_22 (by decide) ?_
      have el_m1 : ((-1) : Int32).toInt = (-1) := rfl
      exact j_iret (pc := 23) C hr hk (fun i => [].getD i 0, fun i => [(-1)].getD i 0, fun i => [m_states].getD i (fun _ => 0), fun i => [].getD i (fun _ => 0)) rfl (show (SV m_states) ∧ (SI m_states m_told m_isMarked) from ⟨h_m_states, hSI⟩) [4, 3, 0, 1, 5, 2] (by decide) rfl (by decide) (by decide) dX11_ask_23
set_option maxHeartbeats 4000000 in
set_option maxRecDepth 100000 in
theorem c_X11_clear (l : Launch) (D : DG) (cyC cyI cyJ cyZ cyO : ClassId) (m0 : Nat) (mtold : Nat) (mop : Nat) (marg : Nat) (mstates : Nat) (misMarked : Nat) (mtape : Nat) (msort : Nat) (mplace : Nat) (mvalue : Nat) (mwords : Nat) (mnames : Nat) (mhasHabit : Nat) (mfactWords : Nat) (mfacts : Nat) (mpile : Nat) (mrow : Nat) (mthr : Nat) (mmays : Nat) (mtall : Nat) (mweights : Nat) (mrowOfWare : Nat) (mneededOf : Nat) (mtried : Nat) (mbestRow : Nat) (mdigits : Nat) (m_thrown : Int32) (m_taped : Int32) (m_size : Int32) (m_at : Int32) (m_fault : Int32) (m_codes : Int32) (m_isNew : Int32) (m_inShelf : Int32) (m_inStack : Int32) (m_inPlace : Int32) (m_rowMany : Int32) (m_goShelf : Int32) (m_goStack : Int32) (m_goLeft : Int32) (m_bestCost : Int32) (m_bestMany : Int32) (m_bestShelf : Int32) (m_bestSet : Int32) (m_told : Nat → Int32) (m_op : Nat → Int32) (m_arg : Nat → Int32) (m_states : Nat → Int32) (m_isMarked : Nat → Int32) (h_m_taped : 0 ≤ (m_taped).toInt ∧ (m_taped).toInt ≤ 1000) (h_m_size : 0 ≤ (m_size).toInt ∧ (m_size).toInt ≤ 1000) (h_m_at : 0 ≤ (m_at).toInt ∧ (m_at).toInt ≤ 1000) (h_m_fault : 0 ≤ (m_fault).toInt ∧ (m_fault).toInt ≤ 16005) (h_m_codes : 0 ≤ (m_codes).toInt ∧ (m_codes).toInt ≤ 1000) (h_m_isNew : 0 ≤ (m_isNew).toInt ∧ (m_isNew).toInt ≤ 1) (h_m_inShelf : 0 ≤ (m_inShelf).toInt ∧ (m_inShelf).toInt ≤ 3) (h_m_inStack : 0 ≤ (m_inStack).toInt ∧ (m_inStack).toInt ≤ 7) (h_m_inPlace : 0 ≤ (m_inPlace).toInt ∧ (m_inPlace).toInt ≤ 11) (h_m_rowMany : 0 ≤ (m_rowMany).toInt ∧ (m_rowMany).toInt ≤ 12) (h_m_goShelf : -1 ≤ (m_goShelf).toInt ∧ (m_goShelf).toInt ≤ 3) (h_m_bestMany : 0 ≤ (m_bestMany).toInt ∧ (m_bestMany).toInt ≤ 7) (h_m_bestShelf : 0 ≤ (m_bestShelf).toInt ∧ (m_bestShelf).toInt ≤ 3) (h_m_told : TV m_told) (h_m_states : SV m_states) (hSI : SI m_states m_told m_isMarked) : KK l D (TY cyC cyI cyJ cyZ cyO) yX11_clear cX11_clear 1 (some .boolean) ({ frames := 0, cells := 0, slots := 0, locals := 0 } : Room) 0 0 [.ref m0] [(m0, .inr (11, [.int m_thrown, .ref mtape, .int m_taped, .int m_size, .ref msort, .ref mplace, .ref mvalue, .int m_at, .int m_fault, .ref mwords, .ref mtold, .ref mop, .ref marg, .int m_codes, .ref mnames, .ref mhasHabit, .int m_isNew, .ref mfactWords, .ref mfacts, .ref mpile, .ref mstates, .ref misMarked, .int m_inShelf, .int m_inStack, .int m_inPlace, .ref mrow, .int m_rowMany, .ref mthr, .ref mmays, .ref mtall, .ref mweights, .ref mrowOfWare, .ref mneededOf, .int m_goShelf, .int m_goStack, .int m_goLeft, .ref mtried, .ref mbestRow, .int m_bestCost, .int m_bestMany, .int m_bestShelf, .int m_bestSet, .ref mdigits])), (mtold, .inl (cyI, 240, .inl m_told)), (mop, .inl (cyI, 2200, .inl m_op)), (marg, .inl (cyI, 2200, .inl m_arg)), (mstates, .inl (cyI, 2760, .inl m_states)), (misMarked, .inl (cyZ, 4, .inl m_isMarked))] (fun u => some (.int 1)) (fun u => (SV (u.2.2.1 0)) ∧ (SI (u.2.2.1 0) m_told m_isMarked)) (fun u => [(m0, .inr (11, [.int 0, .ref mtape, .int m_taped, .int m_size, .ref msort, .ref mplace, .ref mvalue, .int m_at, .int m_fault, .ref mwords, .ref mtold, .ref mop, .ref marg, .int m_codes, .ref mnames, .ref mhasHabit, .int m_isNew, .ref mfactWords, .ref mfacts, .ref mpile, .ref mstates, .ref misMarked, .int m_inShelf, .int m_inStack, .int m_inPlace, .ref mrow, .int m_rowMany, .ref mthr, .ref mmays, .ref mtall, .ref mweights, .ref mrowOfWare, .ref mneededOf, .int m_goShelf, .int m_goStack, .int m_goLeft, .ref mtried, .ref mbestRow, .int m_bestCost, .int m_bestMany, .int m_bestShelf, .int m_bestSet, .ref mdigits])), (mtold, .inl (cyI, 240, .inl m_told)), (mop, .inl (cyI, 2200, .inl m_op)), (marg, .inl (cyI, 2200, .inl m_arg)), (mstates, .inl (cyI, 2760, .inl (u.2.2.1 0))), (misMarked, .inl (cyZ, 4, .inl m_isMarked))]) := by
  refine KK.of (lv0 := [(0, .ref m0)]) (by decide) rfl (Nat.le_of_ble_eq_true rfl) ?_
  intro p e s m args below meth c A C hr hk hin
  refine j_aload_n (pc := 0) C dX11_clear_0 rfl 0 rfl ?_
  refine j_iconst (pc := 1) (v := 0) C dX11_clear_1 (by decide) ?_
  refine j_put (pc := 2) (ci := 11) (v := .int 0) (ws' := [(m0, .inr (11, [.int 0, .ref mtape, .int m_taped, .int m_size, .ref msort, .ref mplace, .ref mvalue, .int m_at, .int m_fault, .ref mwords, .ref mtold, .ref mop, .ref marg, .int m_codes, .ref mnames, .ref mhasHabit, .int m_isNew, .ref mfactWords, .ref mfacts, .ref mpile, .ref mstates, .ref misMarked, .int m_inShelf, .int m_inStack, .int m_inPlace, .ref mrow, .int m_rowMany, .ref mthr, .ref mmays, .ref mtall, .ref mweights, .ref mrowOfWare, .ref mneededOf, .int m_goShelf, .int m_goStack, .int m_goLeft, .ref mtried, .ref mbestRow, .int m_bestCost, .int m_bestMany, .int m_bestShelf, .int m_bestSet, .ref mdigits])), (mtold, .inl (cyI, 240, .inl m_told)), (mop, .inl (cyI, 2200, .inl m_op)), (marg, .inl (cyI, 2200, .inl m_arg)), (mstates, .inl (cyI, 2760, .inl m_states)), (misMarked, .inl (cyZ, 4, .inl m_isMarked))]) C inw_11 0 rfl rfl 0 (by decide) wd_629 rfl tyX11_ok nmX11 rfl (tyX11_ok 0 (by decide)) rfl rfl (Nat.le_of_ble_eq_true rfl) dX11_clear_2 rfl ?_
  refine j_aload_n (pc := 5) C dX11_clear_5 rfl 0 rfl ?_
  refine j_get (pc := 6) (ci := 11) (v := .ref mstates) C inw_11 0 rfl rfl 20 (by decide) wd_764 rfl rfl dX11_clear_6 ?_
  refine j_sipush (pc := 9) (v := 421) C dX11_clear_9 (by decide) ?_
  refine j_iconst (pc := 12) (v := 0) C dX11_clear_12 (by decide) ?_
  obtain ⟨f_1, ef_1⟩ : ∃ z, z = upd m_states 421 0 := ⟨_, rfl⟩
  have el_0 : (0 : Int32).toInt = 0 := rfl
  have hf_1 : SV f_1 := by rw [ef_1]; exact SV.uasks (b := 0) h_m_states (by decide) (by omega) (by omega)
  refine j_iast (pc := 13) (k := 421) (ws' := [(m0, .inr (11, [.int 0, .ref mtape, .int m_taped, .int m_size, .ref msort, .ref mplace, .ref mvalue, .int m_at, .int m_fault, .ref mwords, .ref mtold, .ref mop, .ref marg, .int m_codes, .ref mnames, .ref mhasHabit, .int m_isNew, .ref mfactWords, .ref mfacts, .ref mpile, .ref mstates, .ref misMarked, .int m_inShelf, .int m_inStack, .int m_inPlace, .ref mrow, .int m_rowMany, .ref mthr, .ref mmays, .ref mtall, .ref mweights, .ref mrowOfWare, .ref mneededOf, .int m_goShelf, .int m_goStack, .int m_goLeft, .ref mtried, .ref mbestRow, .int m_bestCost, .int m_bestMany, .int m_bestShelf, .int m_bestSet, .ref mdigits])), (mtold, .inl (cyI, 240, .inl m_told)), (mop, .inl (cyI, 2200, .inl m_op)), (marg, .inl (cyI, 2200, .inl m_arg)), (mstates, .inl (cyI, 2760, .inl f_1)), (misMarked, .inl (cyZ, 4, .inl m_isMarked))]) C 4 1 rfl rfl (by decide) (by decide) (by decide) dX11_clear_13 (by rw [ef_1]; rfl) ?_
  refine j_iconst (pc := 14) (v := 1) C dX11_clear_14 (by decide) ?_
  exact j_zret (pc := 15) C hr rfl hk (fun i => [].getD i 0, fun i => [].getD i 0, fun i => [f_1].getD i (fun _ => 0), fun i => [].getD i (fun _ => 0)) rfl (show (SV f_1) ∧ (SI f_1 m_told m_isMarked) from ⟨hf_1, (by rw [ef_1]; exact (SI.tail hSI (by omega)))⟩) [0, 1, 2, 3, 4, 5] (by decide) rfl (by decide) (by decide) dX11_clear_15
