
/-- in a state of the reference: the ware w is the p-th from below of the stack k of shelf s -/
def IN (f : Nat → Int32) (b : Nat) (ns : Int) (s k p w : Nat) : Prop := (s : Int) < ns ∧ (k : Int) < (f (460 * b + 105 * s)).toInt ∧ (p : Int) < (f (460 * b + 105 * s + 1 + 13 * k)).toInt ∧ (f (460 * b + 105 * s + 1 + 13 * k + 1 + p)).toInt = (w : Int)
/-- the class's standing and the reference's state tell the same: nw wares, ns shelves -/
def ST (sh st lv f : Nat → Int32) (b : Nat) (nw ns : Int) : Prop := (∀ w s k p : Nat, w < 12 → (((sh w).toInt = (s : Int) ∧ (st w).toInt = (k : Int) ∧ (lv w).toInt = (p : Int)) ↔ IN f b ns s k p w)) ∧ (∀ s k : Nat, (s : Int) < ns → (k : Int) < (f (460 * b + 105 * s)).toInt → 1 ≤ (f (460 * b + 105 * s + 1 + 13 * k)).toInt) ∧ (∀ w : Nat, w < 12 → 0 ≤ (sh w).toInt → (w : Int) < nw) ∧ Iv 12 (-1) 3 sh ∧ Iv 12 0 7 st ∧ Iv 12 0 11 lv ∧ ns ≤ 4
theorem ix_inj {s k r s' k' r' : Nat} (hk : k < 8) (hr : r < 13) (hk' : k' < 8) (hr' : r' < 13) (e : 105 * s + 1 + 13 * k + r = 105 * s' + 1 + 13 * k' + r') : s = s' ∧ k = k' ∧ r = r' := by
  have e1 : s = s' := by
    rcases Nat.lt_trichotomy s s' with q | q | q
    · omega
    · exact q
    · omega
  subst e1
  have e2 : k = k' := by
    rcases Nat.lt_trichotomy k k' with q | q | q
    · omega
    · exact q
    · omega
  exact ⟨rfl, e2, by omega⟩
theorem IN.bd {f : Nat → Int32} {b : Nat} {ns : Int} {s k p w : Nat} (h : IN f b ns s k p w) (hv : SV f) (hb : b < 6) (hn : ns ≤ 4) : s < 4 ∧ k < 8 ∧ p < 12 ∧ (f (460 * b + 105 * s)).toInt ≤ 8 ∧ (f (460 * b + 105 * s + 1 + 13 * k)).toInt ≤ 12 ∧ w < 12 := by
  obtain ⟨h1, h2, h3, h4⟩ := h
  have hs : s < 4 := by omega
  have c1 := hv.cnt hb hs (k := 460 * b + 105 * s) rfl
  have hk : k < 8 := by omega
  have a : AD ((460 * b + 105 * s + 1 + 13 * k : Nat) : Int) := ⟨b, s, k, hb, hs, hk, by omega⟩
  have c2 := hv.siz a rfl
  have c3 := hv.war a (k := 460 * b + 105 * s + 1 + 13 * k + 1 + p) (by omega) (by omega)
  exact ⟨hs, hk, by omega, c1.2, c2.2, by omega⟩
theorem ST.fw {sh st lv f : Nat → Int32} {b : Nat} {nw ns : Int} (h : ST sh st lv f b nw ns) {w : Nat} (hw : w < 12) (h0 : 0 ≤ (sh w).toInt) : IN f b ns (sh w).toInt.toNat (st w).toInt.toNat (lv w).toInt.toNat w := by
  have a := h.2.2.2.2.1 w hw
  have c := h.2.2.2.2.2.1 w hw
  exact (h.1 w _ _ _ hw).mp ⟨by omega, by omega, by omega⟩
theorem ST.bw {sh st lv f : Nat → Int32} {b : Nat} {nw ns : Int} (h : ST sh st lv f b nw ns) (hv : SV f) (hb : b < 6) {s k p : Nat} (h1 : (s : Int) < ns) (h2 : (k : Int) < (f (460 * b + 105 * s)).toInt) (h3 : (p : Int) < (f (460 * b + 105 * s + 1 + 13 * k)).toInt) : ∃ w : Nat, w < 12 ∧ (f (460 * b + 105 * s + 1 + 13 * k + 1 + p)).toInt = (w : Int) ∧ (sh w).toInt = (s : Int) ∧ (st w).toInt = (k : Int) ∧ (lv w).toInt = (p : Int) := by
  have hs : s < 4 := by have := h.2.2.2.2.2.2; omega
  have c1 := hv.cnt hb hs (k := 460 * b + 105 * s) rfl
  have hk : k < 8 := by omega
  have a : AD ((460 * b + 105 * s + 1 + 13 * k : Nat) : Int) := ⟨b, s, k, hb, hs, hk, by omega⟩
  have c2 := hv.siz a rfl
  have c3 := hv.war a (k := 460 * b + 105 * s + 1 + 13 * k + 1 + p) (by omega) (by omega)
  have i : IN f b ns s k p (f (460 * b + 105 * s + 1 + 13 * k + 1 + p)).toInt.toNat := ⟨h1, h2, h3, by omega⟩
  have j := (h.1 _ s k p (by omega)).mpr i
  exact ⟨_, by omega, by omega, j.1, j.2.1, j.2.2⟩
/-- the row of a stack of the reference is that of the class -/
theorem ST.row {sh st lv f : Nat → Int32} {b : Nat} {nw ns : Int} (h : ST sh st lv f b nw ns) (hv : SV f) (hb : b < 6) {s k : Int32} (h0 : 0 ≤ s.toInt) (h1 : s.toInt < ns) (k0 : 0 ≤ k.toInt) (h2 : k.toInt < (f (460 * b + 105 * s.toInt.toNat)).toInt) : ROW sh st lv s k (fun p => f (460 * b + 105 * s.toInt.toNat + 1 + 13 * k.toInt.toNat + 1 + p)) (f (460 * b + 105 * s.toInt.toNat + 1 + 13 * k.toInt.toNat)).toInt.toNat := by
  refine ⟨fun w hw e1 e2 => ?_, fun p hp => ?_⟩
  · have i := h.fw hw (by rw [e1]; exact h0)
    have c := h.2.2.2.2.2.1 w hw
    rw [e1, e2] at i
    obtain ⟨_, _, i3, i4⟩ := i
    exact ⟨c.1, by omega, i4⟩
  · obtain ⟨w, a1, a2, a3, a4, a5⟩ := h.bw hv hb (s := s.toInt.toNat) (k := k.toInt.toNat) (p := p) (by omega) (by omega) (by omega)
    exact ⟨w, a1, a2, (i_eq _ _).mpr (by omega), (i_eq _ _).mpr (by omega), a5⟩
/-- a new stack has no row yet -/
theorem ST.row0 {sh st lv f : Nat → Int32} {b : Nat} {nw ns : Int} (h : ST sh st lv f b nw ns) {s k : Int32} (h0 : 0 ≤ s.toInt) (h2 : (f (460 * b + 105 * s.toInt.toNat)).toInt ≤ k.toInt) (r : Nat → Int32) : ROW sh st lv s k r 0 := by
  refine ⟨fun w hw e1 e2 => ?_, fun p hp => absurd hp (Nat.not_lt_zero p)⟩
  have i := h.fw hw (by rw [e1]; exact h0)
  have c := h.2.2.2.2.1 w hw
  rw [e1, e2] at i
  have := i.2.1
  rw [e2] at c
  omega
theorem stF_bd {sh st : Nat → Int32} {s : Int32} {c : Int} (h : Iv 12 0 7 st) (c0 : 0 ≤ c) : ∀ n, n ≤ 12 → (∀ w, w < n → sh w = s → (st w).toInt < c) → 0 ≤ (stF sh st s n).toInt ∧ (stF sh st s n).toInt ≤ c := by
  intro n
  induction n with
  | zero => intro _ _; exact ⟨(show (0 : Int) ≤ (0 : Int32).toInt by decide), (show (0 : Int32).toInt ≤ c from c0)⟩
  | succ n ih =>
    intro hn hc
    have i := ih (by omega) (fun w hw => hc w (by omega))
    have l1 : (1 : Int32).toInt = 1 := rfl
    rw [stF_s]
    by_cases q : sh n = s
    · rw [if_pos q]
      have b := h n (by omega)
      have d := hc n (by omega) q
      have e : (st n + 1).toInt = (st n).toInt + 1 := by rw [fb_addI (by omega) (by omega), l1]
      by_cases z : stF sh st s n < st n + 1
      · rw [if_pos z]; omega
      · rw [if_neg z]; exact i
    · rw [if_neg q]; exact i
theorem stF_ge {sh st : Nat → Int32} {s : Int32} (h : Iv 12 0 7 st) {w : Nat} (hs : sh w = s) : ∀ n, n ≤ 12 → w < n → (st w).toInt + 1 ≤ (stF sh st s n).toInt := by
  intro n
  induction n with
  | zero => intro _ h; exact absurd h (Nat.not_lt_zero w)
  | succ n ih =>
    intro hn hw
    have l1 : (1 : Int32).toInt = 1 := rfl
    rw [stF_s]
    by_cases e : w = n
    · subst e
      have b := h w (by omega)
      have e : (st w + 1).toInt = (st w).toInt + 1 := by rw [fb_addI (by omega) (by omega), l1]
      rw [if_pos hs]
      by_cases z : stF sh st s w < st w + 1
      · rw [if_pos z]; omega
      · rw [if_neg z]; rw [i_lt] at z; omega
    · have i := ih (by omega) (by omega)
      by_cases q : sh n = s
      · rw [if_pos q]
        by_cases z : stF sh st s n < st n + 1
        · rw [if_pos z]; rw [i_lt] at z; omega
        · rw [if_neg z]; exact i
      · rw [if_neg q]; exact i
theorem ST.stacks {sh st lv f : Nat → Int32} {b : Nat} {nw ns : Int} (h : ST sh st lv f b nw ns) (hv : SV f) (hb : b < 6) {s : Int32} (h0 : 0 ≤ s.toInt) (h1 : s.toInt < ns) : (stF sh st s 12).toInt = (f (460 * b + 105 * s.toInt.toNat)).toInt := by
  have hs : s.toInt.toNat < 4 := by have := h.2.2.2.2.2.2; omega
  have c1 := hv.cnt hb hs (k := 460 * b + 105 * s.toInt.toNat) rfl
  have u := stF_bd (sh := sh) (s := s) h.2.2.2.2.1 c1.1 12 (Nat.le_refl _) (fun w hw e => by
    have i := h.fw hw (by rw [e]; exact h0)
    have c := h.2.2.2.2.1 w hw
    have := i.2.1
    rw [e] at this; omega)
  rcases Int.lt_or_le 0 (f (460 * b + 105 * s.toInt.toNat)).toInt with q | q
  · obtain ⟨w, a1, a2, a3, a4, a5⟩ := h.bw hv hb (s := s.toInt.toNat) (k := ((f (460 * b + 105 * s.toInt.toNat)).toInt - 1).toNat) (p := 0) (by omega) (by omega) (by have := h.2.1 s.toInt.toNat ((f (460 * b + 105 * s.toInt.toNat)).toInt - 1).toNat (by omega) (by omega); omega)
    have g := stF_ge (sh := sh) (s := s) h.2.2.2.2.1 (w := w) ((i_eq _ _).mpr (by omega)) 12 (Nat.le_refl _) a1
    omega
  · omega
/-- a ware is out just where the reference finds it nowhere -/
theorem ST.out {sh st lv f : Nat → Int32} {b : Nat} {nw ns : Int} (h : ST sh st lv f b nw ns) {w : Int32} (hw : 0 ≤ w.toInt ∧ w.toInt < 12) (hn : NI f b w ns) (hv : SV f) (hb : b < 6) : (sh w.toInt.toNat).toInt = -1 := by
  have a := h.2.2.2.1 w.toInt.toNat (by omega)
  rcases Int.lt_or_le (sh w.toInt.toNat).toInt 0 with q | q
  · omega
  · have i := h.fw (w := w.toInt.toNat) (by omega) q
    have bd := i.bd hv hb h.2.2.2.2.2.2
    obtain ⟨i1, i2, i3, i4⟩ := i
    exact absurd ((i_eq _ _).mpr (by omega)) (hn _ (by omega) _ _ bd.2.1 i2 i3)
theorem ST.ni {sh st lv f : Nat → Int32} {b : Nat} {nw ns : Int} (h : ST sh st lv f b nw ns) {w : Int32} (hw : 0 ≤ w.toInt ∧ w.toInt < 12) (ho : (sh w.toInt.toNat).toInt = -1) : NI f b w ns := fun s hs t p _ h2 h3 e => by
  have j := (h.1 w.toInt.toNat s t p (by omega)).mpr ⟨hs, h2, h3, by rw [e]; omega⟩
  omega

/-- PUT: a ware that is out goes on top of a stack, or is a new one (k0 = how many there are, n0 = 0) -/
theorem ST.put {sh st lv f sh' st' lv' f' : Nat → Int32} {b : Nat} {nw ns : Int} (h : ST sh st lv f b nw ns) (hv : SV f) (hb : b < 6) {w0 s0 k0 n0 : Nat} (hw : w0 < 12) (hnw : (w0 : Int) < nw) (hs : (s0 : Int) < ns) (hk8 : k0 < 8) (hn12 : n0 < 12) (ho : (sh w0).toInt = -1)
    (hk : ((k0 : Int) < (f (460 * b + 105 * s0)).toInt ∧ (f (460 * b + 105 * s0 + 1 + 13 * k0)).toInt = (n0 : Int) ∧ (f' (460 * b + 105 * s0)).toInt = (f (460 * b + 105 * s0)).toInt) ∨ ((k0 : Int) = (f (460 * b + 105 * s0)).toInt ∧ n0 = 0 ∧ (f' (460 * b + 105 * s0)).toInt = (f (460 * b + 105 * s0)).toInt + 1))
    (c1 : (sh' w0).toInt = (s0 : Int)) (c2 : (st' w0).toInt = (k0 : Int)) (c3 : (lv' w0).toInt = (n0 : Int)) (d1 : ∀ j, ¬ j = w0 → sh' j = sh j) (d2 : ∀ j, ¬ j = w0 → st' j = st j) (d3 : ∀ j, ¬ j = w0 → lv' j = lv j)
    (r1 : (f' (460 * b + 105 * s0 + 1 + 13 * k0)).toInt = (n0 : Int) + 1) (r2 : (f' (460 * b + 105 * s0 + 1 + 13 * k0 + 1 + n0)).toInt = (w0 : Int)) (r3 : ∀ j, j < 460 * b + 420 → ¬ j = 460 * b + 105 * s0 → ¬ j = 460 * b + 105 * s0 + 1 + 13 * k0 → ¬ j = 460 * b + 105 * s0 + 1 + 13 * k0 + 1 + n0 → f' j = f j) : ST sh' st' lv' f' b nw ns := by
  have ns4 := h.2.2.2.2.2.2
  -- the count of a shelf, the size of a stack, a place: as they were but there
  have q1 : ∀ s : Nat, s < 4 → ¬ s = s0 → f' (460 * b + 105 * s) = f (460 * b + 105 * s) := fun s h4 hn => by
    apply r3
    · omega
    · omega
    · omega
    · omega
  have q2 : ∀ s k r : Nat, s < 4 → k < 8 → r < 13 → ¬ (s = s0 ∧ k = k0 ∧ (r = 0 ∨ r = 1 + n0)) → f' (460 * b + 105 * s + 1 + 13 * k + r) = f (460 * b + 105 * s + 1 + 13 * k + r) := fun s k r hs4 hk hr hn => by
    apply r3
    · omega
    · rcases Nat.lt_or_ge s s0 with q | q
      · omega
      · omega
    · intro e
      have z := ix_inj (s := s) (k := k) (r := r) (s' := s0) (k' := k0) (r' := 0) hk hr hk8 (by omega) (by omega)
      exact hn ⟨z.1, z.2.1, Or.inl z.2.2⟩
    · intro e
      have z := ix_inj (s := s) (k := k) (r := r) (s' := s0) (k' := k0) (r' := 1 + n0) hk hr hk8 (by omega) (by omega)
      exact hn ⟨z.1, z.2.1, Or.inr z.2.2⟩
  have hc0 := hv.cnt hb (s := s0) (by omega) (k := 460 * b + 105 * s0) rfl
  have key : ∀ s k p w : Nat, w < 12 → (IN f' b ns s k p w ↔ (s = s0 ∧ k = k0 ∧ p = n0 ∧ w = w0) ∨ IN f b ns s k p w) := by
    intro s k p w hw12
    by_cases e1 : s = s0
    · subst e1
      by_cases e2 : k = k0
      · subst e2
        constructor
        · rintro ⟨i1, i2, i3, i4⟩
          rw [r1] at i3
          by_cases e3 : p = n0
          · subst e3; rw [r2] at i4; exact Or.inl ⟨rfl, rfl, rfl, by omega⟩
          · right
            have y := q2 s k (1 + p) (by omega) hk8 (by omega) (by omega)
            rw [show 460 * b + 105 * s + 1 + 13 * k + (1 + p) = 460 * b + 105 * s + 1 + 13 * k + 1 + p from (by omega)] at y
            rw [y] at i4
            refine ⟨i1, by omega, by omega, i4⟩
        · rintro (⟨_, _, i3, i4⟩ | ⟨i1, i2, i3, i4⟩)
          · subst i3; subst i4
            exact ⟨hs, by omega, by omega, r2⟩
          · have y := q2 s k (1 + p) (by omega) hk8 (by omega) (by omega)
            rw [show 460 * b + 105 * s + 1 + 13 * k + (1 + p) = 460 * b + 105 * s + 1 + 13 * k + 1 + p from (by omega)] at y
            refine ⟨i1, by omega, by omega, ?_⟩
            rw [y]; exact i4
      · -- another stack of the shelf
        have kc : ∀ {x : Int}, (k : Int) < x → x ≤ 8 → k < 8 := fun a b => by omega
        constructor
        · rintro ⟨i1, i2, i3, i4⟩
          right
          have k8 : k < 8 := by omega
          have y0 := q2 s k 0 (by omega) k8 (by omega) (by omega)
          have y0' : f' (460 * b + 105 * s + 1 + 13 * k) = f (460 * b + 105 * s + 1 + 13 * k) := y0
          rw [y0'] at i3
          have sz := hv.siz (i := ((460 * b + 105 * s + 1 + 13 * k : Nat) : Int)) ⟨b, s, k, hb, by omega, k8, by omega⟩ rfl
          have y := q2 s k (1 + p) (by omega) k8 (by omega) (by omega)
          rw [show 460 * b + 105 * s + 1 + 13 * k + (1 + p) = 460 * b + 105 * s + 1 + 13 * k + 1 + p from (by omega)] at y
          rw [y] at i4
          exact ⟨i1, by omega, i3, i4⟩
        · rintro (⟨_, z, _⟩ | ⟨i1, i2, i3, i4⟩)
          · exact absurd z e2
          · have k8 : k < 8 := by omega
            have y0 := q2 s k 0 (by omega) k8 (by omega) (by omega)
            have y0' : f' (460 * b + 105 * s + 1 + 13 * k) = f (460 * b + 105 * s + 1 + 13 * k) := y0
            have sz := hv.siz (i := ((460 * b + 105 * s + 1 + 13 * k : Nat) : Int)) ⟨b, s, k, hb, by omega, k8, by omega⟩ rfl
            have y := q2 s k (1 + p) (by omega) k8 (by omega) (by omega)
            rw [show 460 * b + 105 * s + 1 + 13 * k + (1 + p) = 460 * b + 105 * s + 1 + 13 * k + 1 + p from (by omega)] at y
            refine ⟨i1, by omega, ?_, ?_⟩
            · rw [y0']; exact i3
            · rw [y]; exact i4
    · -- another shelf
      constructor
      · rintro ⟨i1, i2, i3, i4⟩
        right
        rw [q1 s (by omega) e1] at i2
        have c := hv.cnt hb (s := s) (by omega) (k := 460 * b + 105 * s) rfl
        have k8 : k < 8 := by omega
        have y0 := q2 s k 0 (by omega) k8 (by omega) (by omega)
        have y0' : f' (460 * b + 105 * s + 1 + 13 * k) = f (460 * b + 105 * s + 1 + 13 * k) := y0
        rw [y0'] at i3
        have sz := hv.siz (i := ((460 * b + 105 * s + 1 + 13 * k : Nat) : Int)) ⟨b, s, k, hb, by omega, k8, by omega⟩ rfl
        have y := q2 s k (1 + p) (by omega) k8 (by omega) (by omega)
        rw [show 460 * b + 105 * s + 1 + 13 * k + (1 + p) = 460 * b + 105 * s + 1 + 13 * k + 1 + p from (by omega)] at y
        rw [y] at i4
        exact ⟨i1, i2, i3, i4⟩
      · rintro (⟨z, _⟩ | ⟨i1, i2, i3, i4⟩)
        · exact absurd z e1
        · have c := hv.cnt hb (s := s) (by omega) (k := 460 * b + 105 * s) rfl
          have k8 : k < 8 := by omega
          have y0 := q2 s k 0 (by omega) k8 (by omega) (by omega)
          have y0' : f' (460 * b + 105 * s + 1 + 13 * k) = f (460 * b + 105 * s + 1 + 13 * k) := y0
          have sz := hv.siz (i := ((460 * b + 105 * s + 1 + 13 * k : Nat) : Int)) ⟨b, s, k, hb, by omega, k8, by omega⟩ rfl
          have y := q2 s k (1 + p) (by omega) k8 (by omega) (by omega)
          rw [show 460 * b + 105 * s + 1 + 13 * k + (1 + p) = 460 * b + 105 * s + 1 + 13 * k + 1 + p from (by omega)] at y
          refine ⟨i1, ?_, ?_, ?_⟩
          · rw [q1 s (by omega) e1]; exact i2
          · rw [y0']; exact i3
          · rw [y]; exact i4
  refine ⟨fun w s k p hw12 => ?_, fun s k h1 h2 => ?_, fun w hw12 h0 => ?_, fun j hj => ?_, fun j hj => ?_, fun j hj => ?_, ns4⟩
  · rw [key s k p w hw12]
    by_cases e : w = w0
    · subst e
      rw [c1, c2, c3]
      constructor
      · rintro ⟨a1, a2, a3⟩; exact Or.inl ⟨by omega, by omega, by omega, rfl⟩
      · rintro (⟨a1, a2, a3, _⟩ | i)
        · exact ⟨by omega, by omega, by omega⟩
        · have := (h.1 w s k p hw12).mpr i; omega
    · rw [d1 w e, d2 w e, d3 w e, h.1 w s k p hw12]
      constructor
      · intro i; exact Or.inr i
      · rintro (⟨_, _, _, z⟩ | i)
        · exact absurd z e
        · exact i
  · by_cases e1 : s = s0
    · subst e1
      by_cases e2 : k = k0
      · subst e2; omega
      · have k8 : k < 8 := by omega
        have y0 := q2 s k 0 (by omega) k8 (by omega) (by omega)
        have y0' : f' (460 * b + 105 * s + 1 + 13 * k) = f (460 * b + 105 * s + 1 + 13 * k) := y0
        rw [y0']; exact h.2.1 s k h1 (by omega)
    · rw [q1 s (by omega) e1] at h2
      have c := hv.cnt hb (s := s) (by omega) (k := 460 * b + 105 * s) rfl
      have k8 : k < 8 := by omega
      have y0 := q2 s k 0 (by omega) k8 (by omega) (by omega)
      have y0' : f' (460 * b + 105 * s + 1 + 13 * k) = f (460 * b + 105 * s + 1 + 13 * k) := y0
      rw [y0']; exact h.2.1 s k h1 h2
  · by_cases e : w = w0
    · subst e; exact hnw
    · rw [d1 w e] at h0; exact h.2.2.1 w hw12 h0
  · by_cases e : j = w0
    · subst e; omega
    · rw [d1 j e]; exact h.2.2.2.1 j hj
  · by_cases e : j = w0
    · subst e; omega
    · rw [d2 j e]; exact h.2.2.2.2.1 j hj
  · by_cases e : j = w0
    · subst e; omega
    · rw [d3 j e]; exact h.2.2.2.2.2.1 j hj

theorem SV.c8 {f : Nat → Int32} (hv : SV f) {b s : Nat} (hb : b < 6) (hs : s < 4) : 0 ≤ (f (460 * b + 105 * s)).toInt ∧ (f (460 * b + 105 * s)).toInt ≤ 8 := hv.cnt hb hs rfl
theorem SV.z12 {f : Nat → Int32} (hv : SV f) {b s k : Nat} (hb : b < 6) (hs : s < 4) (hk : k < 8) : 0 ≤ (f (460 * b + 105 * s + 1 + 13 * k)).toInt ∧ (f (460 * b + 105 * s + 1 + 13 * k)).toInt ≤ 12 := hv.siz (i := ((460 * b + 105 * s + 1 + 13 * k : Nat) : Int)) ⟨b, s, k, hb, hs, hk, by omega⟩ rfl
theorem z13 {b s k p : Nat} : 460 * b + 105 * s + 1 + 13 * k + (1 + p) = 460 * b + 105 * s + 1 + 13 * k + 1 + p := by omega
/-- a stack is gone, those behind come one ahead: the reference -/
theorem IN.gap {f g : Nat → Int32} {b : Nat} {ns : Int} {s0 k0 : Nat} (hv : SV f) (hb : b < 6) (n4 : ns ≤ 4) (hs0 : s0 < 4) (h0 : (k0 : Int) < (f (460 * b + 105 * s0)).toInt) (h1 : (g (460 * b + 105 * s0)).toInt = (f (460 * b + 105 * s0)).toInt - 1) (h2 : ∀ k r : Nat, k0 ≤ k → (k : Int) + 1 < (f (460 * b + 105 * s0)).toInt → r < 13 → g (460 * b + 105 * s0 + 1 + 13 * k + r) = f (460 * b + 105 * s0 + 1 + 13 * (k + 1) + r)) (h3 : ∀ s : Nat, s < 4 → ¬ s = s0 → g (460 * b + 105 * s) = f (460 * b + 105 * s)) (h4 : ∀ s k r : Nat, s < 4 → k < 8 → r < 13 → (¬ s = s0 ∨ k < k0) → g (460 * b + 105 * s + 1 + 13 * k + r) = f (460 * b + 105 * s + 1 + 13 * k + r)) :
    (∀ s k p w : Nat, s = s0 → k0 ≤ k → (IN g b ns s k p w ↔ IN f b ns s (k + 1) p w)) ∧ (∀ s k p w : Nat, (¬ s = s0 ∨ k < k0) → (IN g b ns s k p w ↔ IN f b ns s k p w)) ∧ (∀ k : Nat, k0 ≤ k → (k : Int) + 1 < (f (460 * b + 105 * s0)).toInt → g (460 * b + 105 * s0 + 1 + 13 * k) = f (460 * b + 105 * s0 + 1 + 13 * (k + 1))) ∧ (∀ s k : Nat, s < 4 → k < 8 → (¬ s = s0 ∨ k < k0) → g (460 * b + 105 * s + 1 + 13 * k) = f (460 * b + 105 * s + 1 + 13 * k)) := by
  have c0 := hv.c8 hb hs0
  have a3 : ∀ k : Nat, k0 ≤ k → (k : Int) + 1 < (f (460 * b + 105 * s0)).toInt → g (460 * b + 105 * s0 + 1 + 13 * k) = f (460 * b + 105 * s0 + 1 + 13 * (k + 1)) := fun k q1 q2 => h2 k 0 q1 q2 (by decide)
  have a4 : ∀ s k : Nat, s < 4 → k < 8 → (¬ s = s0 ∨ k < k0) → g (460 * b + 105 * s + 1 + 13 * k) = f (460 * b + 105 * s + 1 + 13 * k) := fun s k q1 q2 q3 => h4 s k 0 q1 q2 (by decide) q3
  refine ⟨fun s k p w e1 e2 => ?_, fun s k p w e => ?_, a3, a4⟩
  · subst e1
    constructor
    · rintro ⟨i1, i2, i3, i4⟩
      have z := hv.z12 hb hs0 (k := k + 1) (by omega)
      rw [a3 k e2 (by omega)] at i3
      have y := h2 k (1 + p) e2 (by omega) (by omega)
      rw [z13, z13] at y
      rw [y] at i4
      exact ⟨i1, by omega, i3, i4⟩
    · rintro ⟨i1, i2, i3, i4⟩
      have z := hv.z12 hb hs0 (k := k + 1) (by omega)
      have y := h2 k (1 + p) e2 (by omega) (by omega)
      rw [z13, z13] at y
      refine ⟨i1, by omega, ?_, ?_⟩
      · rw [a3 k e2 (by omega)]; exact i3
      · rw [y]; exact i4
  · have cc : ∀ {k' : Nat}, s < 4 → k' = k → ((k : Int) < (g (460 * b + 105 * s)).toInt ↔ (k : Int) < (f (460 * b + 105 * s)).toInt) := fun {k'} q _ => by
      by_cases z : s = s0
      · subst z; rw [h1]; omega
      · rw [h3 s q z]
    constructor
    · rintro ⟨i1, i2, i3, i4⟩
      have s4 : s < 4 := by omega
      have j2 := (cc s4 rfl).mp i2
      have c := hv.c8 hb s4
      have z := hv.z12 hb s4 (k := k) (by omega)
      rw [a4 s k s4 (by omega) e] at i3
      have y := h4 s k (1 + p) s4 (by omega) (by omega) e
      rw [z13] at y
      rw [y] at i4
      exact ⟨i1, j2, i3, i4⟩
    · rintro ⟨i1, i2, i3, i4⟩
      have s4 : s < 4 := by omega
      have c := hv.c8 hb s4
      have z := hv.z12 hb s4 (k := k) (by omega)
      have y := h4 s k (1 + p) s4 (by omega) (by omega) e
      rw [z13] at y
      refine ⟨i1, (cc s4 rfl).mpr i2, ?_, ?_⟩
      · rw [a4 s k s4 (by omega) e]; exact i3
      · rw [y]; exact i4
/-- both close the gap: sh, st, f stand before, with nothing of the class at s0, k0 -/
theorem ST.close {sh st lv f st' g : Nat → Int32} {b : Nat} {nw ns : Int} {s0 k0 : Nat} (hv : SV f) (hb : b < 6) (n4 : ns ≤ 4) (hs0 : s0 < 4) (hrel : ∀ w s k p : Nat, w < 12 → ¬ (s = s0 ∧ k = k0) → (((sh w).toInt = (s : Int) ∧ (st w).toInt = (k : Int) ∧ (lv w).toInt = (p : Int)) ↔ IN f b ns s k p w)) (hne : ∀ s k : Nat, (s : Int) < ns → (k : Int) < (f (460 * b + 105 * s)).toInt → 1 ≤ (f (460 * b + 105 * s + 1 + 13 * k)).toInt) (hnw : ∀ w : Nat, w < 12 → 0 ≤ (sh w).toInt → (w : Int) < nw) (v1 : Iv 12 (-1) 3 sh) (v2 : Iv 12 0 7 st) (v3 : Iv 12 0 11 lv)
    (he : ∀ w : Nat, w < 12 → ¬ ((sh w).toInt = (s0 : Int) ∧ (st w).toInt = (k0 : Int))) (hst : ∀ w : Nat, w < 12 → (st' w).toInt = if (sh w).toInt = (s0 : Int) ∧ (k0 : Int) < (st w).toInt then (st w).toInt - 1 else (st w).toInt)
    (h0 : (k0 : Int) < (f (460 * b + 105 * s0)).toInt) (h1 : (g (460 * b + 105 * s0)).toInt = (f (460 * b + 105 * s0)).toInt - 1) (h2 : ∀ k r : Nat, k0 ≤ k → (k : Int) + 1 < (f (460 * b + 105 * s0)).toInt → r < 13 → g (460 * b + 105 * s0 + 1 + 13 * k + r) = f (460 * b + 105 * s0 + 1 + 13 * (k + 1) + r)) (h3 : ∀ s : Nat, s < 4 → ¬ s = s0 → g (460 * b + 105 * s) = f (460 * b + 105 * s)) (h4 : ∀ s k r : Nat, s < 4 → k < 8 → r < 13 → (¬ s = s0 ∨ k < k0) → g (460 * b + 105 * s + 1 + 13 * k + r) = f (460 * b + 105 * s + 1 + 13 * k + r)) : ST sh st' lv g b nw ns := by
  obtain ⟨g1, g2, g3, g4⟩ := IN.gap (ns := ns) hv hb n4 hs0 h0 h1 h2 h3 h4
  have c0 := hv.c8 hb hs0
  refine ⟨fun w s k p hw => ?_, fun s k q1 q2 => ?_, hnw, v1, fun w hw => ?_, v3, n4⟩
  · have e := hst w hw
    have n := he w hw
    by_cases q : (sh w).toInt = (s0 : Int) ∧ (k0 : Int) < (st w).toInt
    · rw [if_pos q] at e
      by_cases z : s = s0 ∧ k0 ≤ k
      · rw [g1 s k p w z.1 z.2, ← hrel w s (k + 1) p hw (by omega)]
        constructor
        · rintro ⟨y1, y2, y3⟩; exact ⟨y1, by omega, y3⟩
        · rintro ⟨y1, y2, y3⟩; exact ⟨y1, by omega, y3⟩
      · rw [g2 s k p w (by omega), ← hrel w s k p hw (by omega)]
        constructor
        · rintro ⟨y1, y2, y3⟩; exact (z ⟨by omega, by omega⟩).elim
        · rintro ⟨y1, y2, y3⟩; exact (z ⟨by omega, by omega⟩).elim
    · rw [if_neg q] at e
      by_cases z : s = s0 ∧ k0 ≤ k
      · rw [g1 s k p w z.1 z.2, ← hrel w s (k + 1) p hw (by omega)]
        constructor
        · rintro ⟨y1, y2, y3⟩; exfalso; omega
        · rintro ⟨y1, y2, y3⟩; exfalso; omega
      · rw [g2 s k p w (by omega), ← hrel w s k p hw (by omega), e]
  · by_cases z : s = s0
    · subst z
      by_cases y : k0 ≤ k
      · rw [g3 k y (by omega)]; exact hne s (k + 1) q1 (by omega)
      · rw [g4 s k hs0 (by omega) (by omega)]; exact hne s k q1 (by omega)
    · have s4 : s < 4 := by omega
      rw [h3 s s4 z] at q2
      have c := hv.c8 hb s4
      rw [g4 s k s4 (by omega) (Or.inl z)]; exact hne s k q1 q2
  · have e := hst w hw
    have b := v2 w hw
    by_cases q : (sh w).toInt = (s0 : Int) ∧ (k0 : Int) < (st w).toInt
    · rw [if_pos q] at e; omega
    · rw [if_neg q] at e; omega

/-- DRAWN, others are left in the stack -/
theorem ST.drawA {sh st lv f sh' lv' g : Nat → Int32} {b : Nat} {nw ns : Int} {w0 s0 k0 p0 : Nat} (h : ST sh st lv f b nw ns) (hv : SV f) (hb : b < 6) (hw0 : w0 < 12) (i0 : (sh w0).toInt = (s0 : Int) ∧ (st w0).toInt = (k0 : Int) ∧ (lv w0).toInt = (p0 : Int)) (hs0 : s0 < 4) (hk0 : k0 < 8) (hn : 2 ≤ (f (460 * b + 105 * s0 + 1 + 13 * k0)).toInt)
    (c1 : (sh' w0).toInt = -1) (c2 : ∀ w, w < 12 → ¬ w = w0 → sh' w = sh w) (c3 : ∀ w, w < 12 → (lv' w).toInt = if (sh w).toInt = (s0 : Int) ∧ (st w).toInt = (k0 : Int) ∧ (p0 : Int) < (lv w).toInt then (lv w).toInt - 1 else (lv w).toInt)
    (r1 : (g (460 * b + 105 * s0 + 1 + 13 * k0)).toInt = (f (460 * b + 105 * s0 + 1 + 13 * k0)).toInt - 1) (r2 : ∀ p : Nat, (p : Int) < (f (460 * b + 105 * s0 + 1 + 13 * k0)).toInt - 1 → g (460 * b + 105 * s0 + 1 + 13 * k0 + 1 + p) = f (460 * b + 105 * s0 + 1 + 13 * k0 + 1 + (if (p : Int) < (p0 : Int) then p else p + 1))) (r3 : ∀ s : Nat, s < 4 → g (460 * b + 105 * s) = f (460 * b + 105 * s)) (r4 : ∀ s k r : Nat, s < 4 → k < 8 → r < 13 → ¬ (s = s0 ∧ k = k0) → g (460 * b + 105 * s + 1 + 13 * k + r) = f (460 * b + 105 * s + 1 + 13 * k + r)) : ST sh' st lv' g b nw ns := by
  have n4 := h.2.2.2.2.2.2
  have iv1 := h.2.2.2.1
  have iv3 := h.2.2.2.2.2.1
  have a4 : ∀ s k : Nat, s < 4 → k < 8 → ¬ (s = s0 ∧ k = k0) → g (460 * b + 105 * s + 1 + 13 * k) = f (460 * b + 105 * s + 1 + 13 * k) := fun s k q1 q2 q3 => r4 s k 0 q1 q2 (by decide) q3
  -- the reference's own
  have key1 : ∀ p w : Nat, IN g b ns s0 k0 p w ↔ IN f b ns s0 k0 (if (p : Int) < (p0 : Int) then p else p + 1) w := fun p w => by
    constructor
    · rintro ⟨i1, i2, i3, i4⟩
      rw [r3 s0 hs0] at i2
      rw [r1] at i3
      rw [r2 p i3] at i4
      refine ⟨i1, i2, ?_, i4⟩
      by_cases q : (p : Int) < (p0 : Int)
      · rw [if_pos q]; omega
      · rw [if_neg q]; omega
    · rintro ⟨i1, i2, i3, i4⟩
      have y : (p : Int) < (f (460 * b + 105 * s0 + 1 + 13 * k0)).toInt - 1 := by
        have j := (h.fw hw0 (by omega)).2.2.1
        rw [i0.1, i0.2.1, i0.2.2] at j
        have e1 : ((s0 : Int)).toNat = s0 := by omega
        have e2 : ((k0 : Int)).toNat = k0 := by omega
        have e3 : ((p0 : Int)).toNat = p0 := by omega
        rw [e1, e2, e3] at j
        by_cases q : (p : Int) < (p0 : Int)
        · omega
        · rw [if_neg q] at i3; omega
      refine ⟨i1, ?_, ?_, ?_⟩
      · rw [r3 s0 hs0]; exact i2
      · rw [r1]; exact y
      · rw [r2 p y]; exact i4
  have key2 : ∀ s k p w : Nat, ¬ (s = s0 ∧ k = k0) → (IN g b ns s k p w ↔ IN f b ns s k p w) := fun s k p w e => by
    constructor
    · rintro ⟨i1, i2, i3, i4⟩
      have s4 : s < 4 := by omega
      rw [r3 s s4] at i2
      have c := hv.c8 hb s4
      have z := hv.z12 hb s4 (k := k) (by omega)
      rw [a4 s k s4 (by omega) e] at i3
      have y := r4 s k (1 + p) s4 (by omega) (by omega) e
      rw [z13] at y
      rw [y] at i4
      exact ⟨i1, i2, i3, i4⟩
    · rintro ⟨i1, i2, i3, i4⟩
      have s4 : s < 4 := by omega
      have c := hv.c8 hb s4
      have z := hv.z12 hb s4 (k := k) (by omega)
      have y := r4 s k (1 + p) s4 (by omega) (by omega) e
      rw [z13] at y
      refine ⟨i1, ?_, ?_, ?_⟩
      · rw [r3 s s4]; exact i2
      · rw [a4 s k s4 (by omega) e]; exact i3
      · rw [y]; exact i4
  refine ⟨fun w s k p hw => ?_, fun s k q1 q2 => ?_, fun w hw q => ?_, fun w hw => ?_, h.2.2.2.2.1, fun w hw => ?_, n4⟩
  · have e3 := c3 w hw
    by_cases e : w = w0
    · subst e
      constructor
      · rintro ⟨y1, _, _⟩; exfalso; omega
      · intro i
        exfalso
        by_cases q : s = s0 ∧ k = k0
        · obtain ⟨q1, q2⟩ := q
          subst q1; subst q2
          have j := (h.1 w _ _ _ hw).mpr ((key1 p w).mp i)
          have j3 := j.2.2
          by_cases z : (p : Int) < (p0 : Int)
          · rw [if_pos z] at j3; omega
          · rw [if_neg z] at j3; omega
        · have j := (h.1 w _ _ _ hw).mpr ((key2 s k p w q).mp i)
          exact q ⟨by omega, by omega⟩
    · rw [c2 w hw e]
      by_cases q : s = s0 ∧ k = k0
      · obtain ⟨q1, q2⟩ := q
        subst q1; subst q2
        rw [key1 p w, ← h.1 w s k _ hw]
        have nl : (sh w).toInt = (s : Int) → (st w).toInt = (k : Int) → ¬ (lv w).toInt = (p0 : Int) := fun y1 y2 y3 => by
          have j1 := (h.1 w s k p0 hw).mp ⟨y1, y2, y3⟩
          have j2 := (h.1 w0 s k p0 hw0).mp i0
          have := j1.2.2.2
          have := j2.2.2.2
          omega
        constructor
        · rintro ⟨y1, y2, y3⟩
          refine ⟨y1, y2, ?_⟩
          have nl' := nl y1 y2
          by_cases z : (p0 : Int) < (lv w).toInt
          · rw [if_pos ⟨y1, y2, z⟩] at e3
            rw [if_neg (by omega)]; omega
          · rw [if_neg (fun t => z t.2.2)] at e3
            rw [if_pos (by omega)]; omega
        · rintro ⟨y1, y2, y3⟩
          refine ⟨y1, y2, ?_⟩
          by_cases z : (p : Int) < (p0 : Int)
          · rw [if_pos z] at y3
            rw [if_neg (by omega)] at e3; omega
          · rw [if_neg z] at y3
            rw [if_pos ⟨y1, y2, by omega⟩] at e3; omega
      · rw [key2 s k p w q, ← h.1 w s k p hw]
        constructor
        · rintro ⟨y1, y2, y3⟩
          rw [if_neg (fun t => q ⟨by omega, by omega⟩)] at e3
          exact ⟨y1, y2, by omega⟩
        · rintro ⟨y1, y2, y3⟩
          rw [if_neg (fun t => q ⟨by omega, by omega⟩)] at e3
          exact ⟨y1, y2, by omega⟩
  · have s4 : s < 4 := by omega
    rw [r3 s s4] at q2
    by_cases q : s = s0 ∧ k = k0
    · rw [q.1, q.2, r1]; omega
    · have c := hv.c8 hb s4
      rw [a4 s k s4 (by omega) q]; exact h.2.1 s k q1 q2
  · by_cases e : w = w0
    · rw [e] at q; omega
    · rw [c2 w hw e] at q; exact h.2.2.1 w hw q
  · by_cases e : w = w0
    · rw [e]; omega
    · rw [c2 w hw e]; exact iv1 w hw
  · have e3 := c3 w hw
    have b := iv3 w hw
    by_cases q : (sh w).toInt = (s0 : Int) ∧ (st w).toInt = (k0 : Int) ∧ (p0 : Int) < (lv w).toInt
    · rw [if_pos q] at e3; omega
    · rw [if_neg q] at e3; omega

/-- DRAWN, the stack is gone -/
theorem ST.drawB {sh st lv f sh' st' lv' g : Nat → Int32} {b : Nat} {nw ns : Int} {w0 s0 k0 p0 : Nat} (h : ST sh st lv f b nw ns) (hv : SV f) (hb : b < 6) (hw0 : w0 < 12) (i0 : (sh w0).toInt = (s0 : Int) ∧ (st w0).toInt = (k0 : Int) ∧ (lv w0).toInt = (p0 : Int)) (hs0 : s0 < 4) (hk0 : k0 < 8) (hn : (f (460 * b + 105 * s0 + 1 + 13 * k0)).toInt = 1)
    (c1 : (sh' w0).toInt = -1) (c2 : ∀ w, w < 12 → ¬ w = w0 → sh' w = sh w) (c3 : ∀ w, w < 12 → (lv' w).toInt = if (sh w).toInt = (s0 : Int) ∧ (st w).toInt = (k0 : Int) ∧ (p0 : Int) < (lv w).toInt then (lv w).toInt - 1 else (lv w).toInt) (c4 : ∀ w : Nat, w < 12 → (st' w).toInt = if (sh' w).toInt = (s0 : Int) ∧ (k0 : Int) < (st w).toInt then (st w).toInt - 1 else (st w).toInt)
    (r1 : (g (460 * b + 105 * s0)).toInt = (f (460 * b + 105 * s0)).toInt - 1) (r2 : ∀ k r : Nat, k0 ≤ k → (k : Int) + 1 < (f (460 * b + 105 * s0)).toInt → r < 13 → g (460 * b + 105 * s0 + 1 + 13 * k + r) = f (460 * b + 105 * s0 + 1 + 13 * (k + 1) + r)) (r3 : ∀ s : Nat, s < 4 → ¬ s = s0 → g (460 * b + 105 * s) = f (460 * b + 105 * s)) (r4 : ∀ s k r : Nat, s < 4 → k < 8 → r < 13 → (¬ s = s0 ∨ k < k0) → g (460 * b + 105 * s + 1 + 13 * k + r) = f (460 * b + 105 * s + 1 + 13 * k + r)) : ST sh' st' lv' g b nw ns := by
  have n4 := h.2.2.2.2.2.2
  have j0 := (h.1 w0 s0 k0 p0 hw0).mp i0
  -- it alone is there
  have al : ∀ w, w < 12 → (sh w).toInt = (s0 : Int) → (st w).toInt = (k0 : Int) → w = w0 := fun w hw y1 y2 => by
    have v := h.2.2.2.2.2.1 w hw
    have j := (h.1 w s0 k0 (lv w).toInt.toNat hw).mp ⟨y1, y2, by omega⟩
    have a1 := j.2.2.1
    have a2 := j0.2.2.1
    have a3 := j.2.2.2
    have a4 := j0.2.2.2
    rw [show (lv w).toInt.toNat = p0 by omega] at a3
    omega
  have lvE : ∀ w, w < 12 → (lv' w).toInt = (lv w).toInt := fun w hw => by
    have e := c3 w hw
    by_cases q : (sh w).toInt = (s0 : Int) ∧ (st w).toInt = (k0 : Int) ∧ (p0 : Int) < (lv w).toInt
    · have z := al w hw q.1 q.2.1
      rw [z] at q; omega
    · rw [if_neg q] at e; exact e
  refine ST.close (sh := sh') (st := st) (lv := lv') (f := f) (s0 := s0) (k0 := k0) hv hb n4 hs0 (fun w s k p hw q => ?_) h.2.1 (fun w hw y => ?_) (fun w hw => ?_) h.2.2.2.2.1 (fun w hw => ?_) (fun w hw y => ?_) c4 j0.2.1 r1 r2 r3 r4
  · by_cases e : w = w0
    · subst e
      constructor
      · rintro ⟨y1, _, _⟩; exfalso; omega
      · intro i
        have y := (h.1 w s k p hw).mpr i
        exact (q ⟨by omega, by omega⟩).elim
    · rw [c2 w hw e, lvE w hw]; exact h.1 w s k p hw
  · by_cases e : w = w0
    · rw [e] at y; omega
    · rw [c2 w hw e] at y; exact h.2.2.1 w hw y
  · by_cases e : w = w0
    · rw [e]; omega
    · rw [c2 w hw e]; exact h.2.2.2.1 w hw
  · have e := lvE w hw
    have b := h.2.2.2.2.2.1 w hw
    omega
  · by_cases e : w = w0
    · rw [e] at y; omega
    · rw [c2 w hw e] at y; exact e (al w hw y.1 y.2)
/-- CARRIED: the stack s0, k0 goes to the shelf t0 as its last one -/
theorem ST.carry {sh st lv f sh' st1 st' f1 g : Nat → Int32} {b : Nat} {nw ns : Int} {s0 k0 t0 c0 : Nat} (h : ST sh st lv f b nw ns) (hv : SV f) (hv1 : SV f1) (hb : b < 6) (hs0 : s0 < 4) (hk0 : k0 < 8) (ht0 : (t0 : Int) < ns) (hne : ¬ s0 = t0) (hc : (f (460 * b + 105 * t0)).toInt = (c0 : Int)) (hc8 : c0 < 8) (hk : (k0 : Int) < (f (460 * b + 105 * s0)).toInt) (hsn : (s0 : Int) < ns)
    (c1 : ∀ w, w < 12 → (sh' w).toInt = if (sh w).toInt = (s0 : Int) ∧ (st w).toInt = (k0 : Int) then (t0 : Int) else (sh w).toInt) (c2 : ∀ w, w < 12 → (st1 w).toInt = if (sh w).toInt = (s0 : Int) ∧ (st w).toInt = (k0 : Int) then (c0 : Int) else (st w).toInt) (c4 : ∀ w : Nat, w < 12 → (st' w).toInt = if (sh' w).toInt = (s0 : Int) ∧ (k0 : Int) < (st1 w).toInt then (st1 w).toInt - 1 else (st1 w).toInt)
    (m1 : (f1 (460 * b + 105 * t0)).toInt = (c0 : Int) + 1) (m2 : (f1 (460 * b + 105 * t0 + 1 + 13 * c0)).toInt = (f (460 * b + 105 * s0 + 1 + 13 * k0)).toInt) (m3 : ∀ p : Nat, (p : Int) < (f (460 * b + 105 * s0 + 1 + 13 * k0)).toInt → f1 (460 * b + 105 * t0 + 1 + 13 * c0 + 1 + p) = f (460 * b + 105 * s0 + 1 + 13 * k0 + 1 + p)) (m4 : ∀ s : Nat, s < 4 → ¬ s = t0 → f1 (460 * b + 105 * s) = f (460 * b + 105 * s)) (m5 : ∀ s k r : Nat, s < 4 → k < 8 → r < 13 → ¬ (s = t0 ∧ k = c0) → f1 (460 * b + 105 * s + 1 + 13 * k + r) = f (460 * b + 105 * s + 1 + 13 * k + r))
    (r1 : (g (460 * b + 105 * s0)).toInt = (f1 (460 * b + 105 * s0)).toInt - 1) (r2 : ∀ k r : Nat, k0 ≤ k → (k : Int) + 1 < (f1 (460 * b + 105 * s0)).toInt → r < 13 → g (460 * b + 105 * s0 + 1 + 13 * k + r) = f1 (460 * b + 105 * s0 + 1 + 13 * (k + 1) + r)) (r3 : ∀ s : Nat, s < 4 → ¬ s = s0 → g (460 * b + 105 * s) = f1 (460 * b + 105 * s)) (r4 : ∀ s k r : Nat, s < 4 → k < 8 → r < 13 → (¬ s = s0 ∨ k < k0) → g (460 * b + 105 * s + 1 + 13 * k + r) = f1 (460 * b + 105 * s + 1 + 13 * k + r)) : ST sh' st' lv g b nw ns := by
  have n4 := h.2.2.2.2.2.2
  have t4 : t0 < 4 := by omega
  have a5 : ∀ s k : Nat, s < 4 → k < 8 → ¬ (s = t0 ∧ k = c0) → f1 (460 * b + 105 * s + 1 + 13 * k) = f (460 * b + 105 * s + 1 + 13 * k) := fun s k q1 q2 q3 => m5 s k 0 q1 q2 (by decide) q3
  have z0 := hv.z12 hb hs0 hk0
  -- the new stack
  have key1 : ∀ p w : Nat, IN f1 b ns t0 c0 p w ↔ IN f b ns s0 k0 p w := fun p w => by
    constructor
    · rintro ⟨i1, i2, i3, i4⟩
      rw [m2] at i3
      rw [m3 p i3] at i4
      exact ⟨hsn, hk, i3, i4⟩
    · rintro ⟨i1, i2, i3, i4⟩
      refine ⟨ht0, by omega, ?_, ?_⟩
      · rw [m2]; exact i3
      · rw [m3 p i3]; exact i4
  have key2 : ∀ s k p w : Nat, ¬ (s = t0 ∧ k = c0) → (IN f1 b ns s k p w ↔ IN f b ns s k p w) := fun s k p w e => by
    have cc : s < 4 → ((k : Int) < (f1 (460 * b + 105 * s)).toInt ↔ (k : Int) < (f (460 * b + 105 * s)).toInt) := fun q => by
      by_cases z : s = t0
      · subst z
        have : ¬ k = c0 := fun y => e ⟨rfl, y⟩
        omega
      · rw [m4 s q z]
    constructor
    · rintro ⟨i1, i2, i3, i4⟩
      have s4 : s < 4 := by omega
      have j2 := (cc s4).mp i2
      have c := hv.c8 hb s4
      have z := hv.z12 hb s4 (k := k) (by omega)
      rw [a5 s k s4 (by omega) e] at i3
      have y := m5 s k (1 + p) s4 (by omega) (by omega) e
      rw [z13] at y
      rw [y] at i4
      exact ⟨i1, j2, i3, i4⟩
    · rintro ⟨i1, i2, i3, i4⟩
      have s4 : s < 4 := by omega
      have c := hv.c8 hb s4
      have z := hv.z12 hb s4 (k := k) (by omega)
      have y := m5 s k (1 + p) s4 (by omega) (by omega) e
      rw [z13] at y
      refine ⟨i1, (cc s4).mpr i2, ?_, ?_⟩
      · rw [a5 s k s4 (by omega) e]; exact i3
      · rw [y]; exact i4
  have hk1 : (k0 : Int) < (f1 (460 * b + 105 * s0)).toInt := by rw [m4 s0 hs0 hne]; exact hk
  refine ST.close (sh := sh') (st := st1) (lv := lv) (f := f1) (s0 := s0) (k0 := k0) hv1 hb n4 hs0 (fun w s k p hw q => ?_) (fun s k q1 q2 => ?_) (fun w hw y => ?_) (fun w hw => ?_) (fun w hw => ?_) h.2.2.2.2.2.1 (fun w hw y => ?_) c4 hk1 r1 r2 r3 r4
  · have e1 := c1 w hw
    have e2 := c2 w hw
    by_cases z : (sh w).toInt = (s0 : Int) ∧ (st w).toInt = (k0 : Int)
    · rw [if_pos z] at e1 e2
      by_cases y : s = t0 ∧ k = c0
      · obtain ⟨y1, y2⟩ := y
        subst y1; subst y2
        rw [key1 p w, ← h.1 w s0 k0 p hw]
        constructor
        · rintro ⟨_, _, x⟩; exact ⟨z.1, z.2, x⟩
        · rintro ⟨_, _, x⟩; exact ⟨by omega, by omega, x⟩
      · rw [key2 s k p w y, ← h.1 w s k p hw]
        constructor
        · rintro ⟨x1, x2, _⟩; exact (y ⟨by omega, by omega⟩).elim
        · rintro ⟨x1, x2, _⟩; exact (q ⟨by omega, by omega⟩).elim
    · rw [if_neg z] at e1 e2
      by_cases y : s = t0 ∧ k = c0
      · obtain ⟨y1, y2⟩ := y
        subst y1; subst y2
        rw [key1 p w, ← h.1 w s0 k0 p hw]
        constructor
        · rintro ⟨x1, x2, x3⟩
          have j := (h.1 w s k p hw).mp ⟨by omega, by omega, x3⟩
          have := j.2.1
          exfalso; omega
        · rintro ⟨x1, x2, _⟩; exact (z ⟨x1, x2⟩).elim
      · rw [key2 s k p w y, ← h.1 w s k p hw, e1, e2]
  · by_cases y : s = t0 ∧ k = c0
    · rw [y.1, y.2, m2]; exact h.2.1 s0 k0 hsn hk
    · have s4 : s < 4 := by omega
      have j2 : (k : Int) < (f (460 * b + 105 * s)).toInt := by
        by_cases z : s = t0
        · have : ¬ k = c0 := fun x => y ⟨z, x⟩
          rw [z] at q2 ⊢; omega
        · rw [m4 s s4 z] at q2; exact q2
      have c := hv.c8 hb s4
      rw [a5 s k s4 (by omega) y]; exact h.2.1 s k q1 j2
  · have e1 := c1 w hw
    by_cases z : (sh w).toInt = (s0 : Int) ∧ (st w).toInt = (k0 : Int)
    · exact h.2.2.1 w hw (by omega)
    · rw [if_neg z] at e1; exact h.2.2.1 w hw (by omega)
  · have e1 := c1 w hw
    have b := h.2.2.2.1 w hw
    by_cases z : (sh w).toInt = (s0 : Int) ∧ (st w).toInt = (k0 : Int)
    · rw [if_pos z] at e1; omega
    · rw [if_neg z] at e1; omega
  · have e2 := c2 w hw
    have b := h.2.2.2.2.1 w hw
    by_cases z : (sh w).toInt = (s0 : Int) ∧ (st w).toInt = (k0 : Int)
    · rw [if_pos z] at e2; omega
    · rw [if_neg z] at e2; omega
  · have e1 := c1 w hw
    have e2 := c2 w hw
    by_cases z : (sh w).toInt = (s0 : Int) ∧ (st w).toInt = (k0 : Int)
    · rw [if_pos z] at e1; omega
    · rw [if_neg z] at e1 e2; exact z ⟨by omega, by omega⟩

/-- the same in another block -/
theorem ST.cp {sh st lv f g : Nat → Int32} {a b : Nat} {nw ns : Int} (h : ST sh st lv f a nw ns) (hv : SV f) (ha : a < 6) (e : ∀ i : Nat, i < 420 → g (460 * b + i) = f (460 * a + i)) : ST sh st lv g b nw ns := by
  have n4 := h.2.2.2.2.2.2
  have c : ∀ s : Nat, s < 4 → g (460 * b + 105 * s) = f (460 * a + 105 * s) := fun s hs => e (105 * s) (by omega)
  have z : ∀ s k r : Nat, s < 4 → k < 8 → r < 13 → g (460 * b + 105 * s + 1 + 13 * k + r) = f (460 * a + 105 * s + 1 + 13 * k + r) := fun s k r h1 h2 h3 => by
    have := e (105 * s + 1 + 13 * k + r) (by omega)
    rw [show 460 * b + 105 * s + 1 + 13 * k + r = 460 * b + (105 * s + 1 + 13 * k + r) by omega, this]
    congr 1 <;> omega
  have z0 : ∀ s k : Nat, s < 4 → k < 8 → g (460 * b + 105 * s + 1 + 13 * k) = f (460 * a + 105 * s + 1 + 13 * k) := fun s k h1 h2 => z s k 0 h1 h2 (by decide)
  have key : ∀ s k p w : Nat, IN g b ns s k p w ↔ IN f a ns s k p w := fun s k p w => by
    constructor
    · rintro ⟨i1, i2, i3, i4⟩
      have s4 : s < 4 := by omega
      rw [c s s4] at i2
      have c8 := hv.c8 ha s4
      have k8 : k < 8 := by omega
      have y := hv.z12 ha s4 k8
      rw [z0 s k s4 k8] at i3
      have x := z s k (1 + p) s4 k8 (by omega)
      rw [z13, z13] at x
      rw [x] at i4
      exact ⟨i1, i2, i3, i4⟩
    · rintro ⟨i1, i2, i3, i4⟩
      have s4 : s < 4 := by omega
      have c8 := hv.c8 ha s4
      have k8 : k < 8 := by omega
      have y := hv.z12 ha s4 k8
      have x := z s k (1 + p) s4 k8 (by omega)
      rw [z13, z13] at x
      refine ⟨i1, ?_, ?_, ?_⟩
      · rw [c s s4]; exact i2
      · rw [z0 s k s4 k8]; exact i3
      · rw [x]; exact i4
  refine ⟨fun w s k p hw => by rw [key]; exact h.1 w s k p hw, fun s k q1 q2 => ?_, h.2.2⟩
  have s4 : s < 4 := by omega
  rw [c s s4] at q2
  have c8 := hv.c8 ha s4
  rw [z0 s k s4 (by omega)]; exact h.2.1 s k q1 q2
theorem ST.fr {sh st lv f g : Nat → Int32} {b : Nat} {nw ns : Int} (h : ST sh st lv f b nw ns) (hv : SV f) (hb : b < 6) (e : ∀ j : Nat, 460 * b ≤ j → j < 460 * b + 420 → g j = f j) : ST sh st lv g b nw ns := h.cp hv hb (fun i hi => e _ (by omega) (by omega))
theorem ST.zero {sh st lv f : Nat → Int32} {b : Nat} {nw ns : Int} (h1 : ∀ w : Nat, w < 12 → (sh w).toInt = -1) (h2 : ∀ s : Nat, s < 4 → (f (460 * b + 105 * s)).toInt = 0) (v2 : Iv 12 0 7 st) (v3 : Iv 12 0 11 lv) (n4 : ns ≤ 4) : ST sh st lv f b nw ns := by
  refine ⟨fun w s k p hw => ⟨fun z => ?_, fun z => ?_⟩, fun s k q1 q2 => ?_, fun w hw q => ?_, fun w hw => ?_, v2, v3, n4⟩
  · have := h1 w hw; exfalso; omega
  · obtain ⟨i1, i2, _⟩ := z
    have := h2 s (by omega); exfalso; omega
  · have := h2 s (by omega); exfalso; omega
  · have := h1 w hw; omega
  · have := h1 w hw; omega

/-- how many stand where a ware is put: none in a new stack -/
def nPt (k c : Int) : Int := if k = -1 then 0 else c
/-- a ware was put: a is the state's begin -/
def PTS (f g : Nat → Int32) (a : Nat) (w s k : Int32) : Prop := ∀ k0 n0 : Nat, (k0 : Int) = plc k.toInt (f (a + 105 * s.toInt.toNat)).toInt → (n0 : Int) = nPt k.toInt (f (a + 105 * s.toInt.toNat + 1 + 13 * k0)).toInt → (k0 ≤ 7 ∧ n0 ≤ 11) ∧ (g (a + 105 * s.toInt.toNat)).toInt = (f (a + 105 * s.toInt.toNat)).toInt + (if k.toInt = -1 then 1 else 0) ∧ (g (a + 105 * s.toInt.toNat + 1 + 13 * k0)).toInt = (n0 : Int) + 1 ∧ g (a + 105 * s.toInt.toNat + 1 + 13 * k0 + 1 + n0) = w ∧ ∀ j : Nat, ¬ j = 420 → ¬ j = a + 105 * s.toInt.toNat → ¬ j = a + 105 * s.toInt.toNat + 1 + 13 * k0 → ¬ j = a + 105 * s.toInt.toNat + 1 + 13 * k0 + 1 + n0 → g j = f j
/-- a stack is gone: the reference's row -/
def GAW (f g : Nat → Int32) (s k : Nat) : Prop := (g (105 * s)).toInt = (f (105 * s)).toInt - 1 ∧ (∀ k' r : Nat, k ≤ k' → (k' : Int) + 1 < (f (105 * s)).toInt → r < 13 → g (105 * s + 1 + 13 * k' + r) = f (105 * s + 1 + 13 * (k' + 1) + r)) ∧ ∀ j : Nat, ¬ j = 420 → ¬ j = 105 * s → (j < 105 * s + 1 + 13 * k ∨ 105 * s + 105 ≤ j) → g j = f j
/-- under way: the stacks below n are moved -/
def GWI (f g : Nat → Int32) (s k : Nat) (n : Int) : Prop := (∀ k' r : Nat, k ≤ k' → (k' : Int) + 1 < n → r < 13 → g (105 * s + 1 + 13 * k' + r) = f (105 * s + 1 + 13 * (k' + 1) + r)) ∧ ∀ j : Nat, (j < 105 * s + 1 + 13 * k ∨ 105 * (s : Int) + 1 + 13 * (n - 1) ≤ (j : Int)) → g j = f j
theorem GWI.start {f : Nat → Int32} {s k : Nat} {n : Int} (h : n = (k : Int) + 1) : GWI f f s k n := ⟨fun k' r h1 h2 => absurd h2 (by omega), fun j _ => rfl⟩
theorem GWI.step {f g g' : Nat → Int32} {s k : Nat} {n n' : Int} (h : GWI f g s k n) (hk : (k : Int) + 1 ≤ n) (hn : n' = n + 1) (h1 : ∀ j : Nat, ((j : Int) < 105 * (s : Int) + 1 + 13 * (n - 1) ∨ 105 * (s : Int) + 14 + 13 * (n - 1) ≤ (j : Int)) → g' j = g j) (h2 : ∀ r : Nat, r < 13 → g' (105 * s + 1 + 13 * (n - 1).toNat + r) = g (105 * s + 1 + 13 * (n - 1).toNat + 13 + r)) : GWI f g' s k n' := by
  refine ⟨fun k' r q1 q2 q3 => ?_, fun j hj => ?_⟩
  · rcases Int.lt_or_le ((k' : Int) + 1) n with q | q
    · rw [h1 _ (by omega)]; exact h.1 k' r q1 q q3
    · have e : k' = (n - 1).toNat := by omega
      rw [e, h2 r q3, h.2 _ (by omega)]
      congr 1 <;> omega
  · rw [h1 j (by omega)]; exact h.2 j (by omega)
theorem GWI.fin {f g g' : Nat → Int32} {s k : Nat} {n : Int} {v : Int32} (h : GWI f g s k n) (hn : n = (f (105 * s)).toInt) (hk : (k : Int) < n) (e : g' = upd g (105 * s) v) (hv : v.toInt = (f (105 * s)).toInt - 1) (h8 : n ≤ 8) : GAW f g' s k := by
  subst e
  refine ⟨by rw [pk_us]; exact hv, fun k' r q1 q2 q3 => ?_, fun j _ q1 q2 => ?_⟩
  · rw [pk_un (by omega)]; exact h.1 k' r q1 (by omega) q3
  · rw [pk_un q1]; exact h.2 j (by omega)

theorem PTS.cost {f g g' : Nat → Int32} {w s k x : Int32} (h : PTS f g 0 w s k) (hs : s.toInt ≤ 3) (e : g' = upd g 420 x) : PTS f g' 0 w s k := fun k0 n0 hk hn => by
  obtain ⟨b, c1, c2, c3, c4⟩ := h k0 n0 hk hn
  subst e
  refine ⟨b, ?_, ?_, ?_, fun j j0 j1 j2 j3 => ?_⟩
  · rw [pk_un (by omega)]; exact c1
  · rw [pk_un (by omega)]; exact c2
  · rw [pk_un (by omega)]; exact c3
  · rw [pk_un j0]; exact c4 j j0 j1 j2 j3
/-- a ware was drawn from the place q of the stack s, k -/
def DRW (f g : Nat → Int32) (s k q : Nat) : Prop := (2 ≤ (f (105 * s + 1 + 13 * k)).toInt → (g (105 * s + 1 + 13 * k)).toInt = (f (105 * s + 1 + 13 * k)).toInt - 1 ∧ (∀ p : Nat, (p : Int) < (f (105 * s + 1 + 13 * k)).toInt - 1 → g (105 * s + 1 + 13 * k + 1 + p) = f (105 * s + 1 + 13 * k + 1 + (if (p : Int) < (q : Int) then p else p + 1))) ∧ ∀ j : Nat, ¬ j = 420 → (j < 105 * s + 1 + 13 * k ∨ 105 * s + 13 + 13 * k < j) → g j = f j) ∧ ((f (105 * s + 1 + 13 * k)).toInt = 1 → GAW f g s k)
/-- a stack was laid as the last one of a shelf -/
def CRY (f g : Nat → Int32) (s k t c : Nat) : Prop := (g (105 * t)).toInt = (c : Int) + 1 ∧ (g (105 * t + 1 + 13 * c)).toInt = (f (105 * s + 1 + 13 * k)).toInt ∧ (∀ p : Nat, (p : Int) < (f (105 * s + 1 + 13 * k)).toInt → g (105 * t + 1 + 13 * c + 1 + p) = f (105 * s + 1 + 13 * k + 1 + p)) ∧ ∀ j : Nat, ¬ j = 420 → ¬ j = 105 * t → (j < 105 * t + 1 + 13 * c ∨ 105 * t + 13 + 13 * c < j) → g j = f j
theorem GAW.from {f f1 g : Nat → Int32} {s k : Nat} (h : GAW f1 g s k) (hs : s < 4) (hk : k < 8) (h8 : (f (105 * s)).toInt ≤ 8) (e : ∀ j : Nat, ¬ j = 420 → (j < 105 * s + 1 + 13 * k ∨ 105 * s + 13 + 13 * k < j) → f1 j = f j) : GAW f g s k := by
  have e0 : f1 (105 * s) = f (105 * s) := e _ (by omega) (by omega)
  refine ⟨by rw [h.1, e0], fun k' r q1 q2 q3 => ?_, fun j j0 j1 j2 => ?_⟩
  · rw [h.2.1 k' r q1 (by rw [e0]; exact q2) q3]; exact e _ (by omega) (by omega)
  · rw [h.2.2 j j0 j1 j2]; exact e j j0 (by omega)

theorem NI.ex {f : Nat → Int32} {b : Nat} {w : Int32} {ns : Int} (hn : ns ≤ 4) (hw : 0 ≤ w.toInt) (h : ¬ NI f b w ns) : ∃ s k q : Nat, IN f b ns s k q w.toInt.toNat ∧ s < 4 ∧ k < 8 := by
  apply Classical.byContradiction
  intro hc
  apply h
  intro s hs t p h8 h0 hp e
  exact hc ⟨s, t, p, ⟨hs, h0, hp, by rw [e]; omega⟩, by omega, h8⟩

/-- what lifting a ware costs: the reference -/
def pAM (t f : Nat → Int32) (b : Nat) (ns : Int) (w : Int32) (z : Int32) : Prop := (NI f b w ns ∧ z = 0) ∨ (¬ NI f b w ns ∧ ∃ s k q : Nat, IN f b ns s k q w.toInt.toNat ∧ s < 4 ∧ k < 8 ∧ z = lcF (wtM t) (fun p => f (460 * b + 105 * s + 1 + 13 * k + 1 + p)) (t (99 + 3 * s + 1)) q (f (460 * b + 105 * s + 1 + 13 * k)).toInt.toNat)
def pAMA (t f : Nat → Int32) (ns : Int) (j : Nat) (z : Int32) : Prop := pAM t f 0 ns (f (422 + j)) z
def hbM (t : Nat → Int32) (j : Nat) : Int32 := t (3 + 8 * j + 5)
def pHM (t f : Nat → Int32) (ns : Int) (j : Nat) (z : Int32) : Prop := ∃ y : Int32, pAM t f 0 ns (nI j) y ∧ z = hbM t j * y
/-- askings alike -/
def AQ (as : Nat → Int32) (n : Int) (f : Nat → Int32) (o : Nat) : Prop := ∀ j : Nat, (j : Int) < n → as j = f (o + j)
theorem AQ.fr {as as' : Nat → Int32} {n n' : Int} {f f' : Nat → Int32} {o o' : Nat} (h : AQ as n f o) (hn : n' ≤ n) (h30 : n ≤ 30) (ha : ∀ j, j < 30 → as' j = as j) (hf : ∀ j, j < 30 → f' (o' + j) = f (o + j)) : AQ as' n' f' o' := fun j hj => by
  rw [ha j (by omega), hf j (by omega)]; exact h j (by omega)
theorem AQ.ask {as as' : Nat → Int32} {n n' p w : Int} {v : Int32} {f f' : Nat → Int32} {o : Nat} (h : AQ as n f o) (h0 : 0 ≤ n) (h30 : n ≤ 30) (e : n' = akN p w n) (ha : ∀ j : Nat, j < 30 → as' j = akQ p w n v as j) (hf : ∀ j : Nat, j < 30 → f' (o + j) = akQ p w n v (fun j => f (o + j)) j) : AQ as' n' f' o := fun j hj => by
  unfold akN at e
  by_cases c : 0 ≤ p ∧ p < w ∧ n < 30
  · rw [if_pos c] at e
    rw [ha j (by omega), hf j (by omega)]
    unfold akQ
    by_cases q : (j : Int) = n
    · rw [if_pos ⟨c, q⟩, if_pos ⟨c, q⟩]
    · rw [if_neg (fun z => q z.2), if_neg (fun z => q z.2)]; exact h j (by omega)
  · rw [if_neg c] at e
    rw [ha j (by omega), hf j (by omega)]
    unfold akQ
    rw [if_neg (fun z => c z.1), if_neg (fun z => c z.1)]; exact h j (by omega)
theorem AQ.nil {as : Nat → Int32} {n : Int} {f : Nat → Int32} {o : Nat} (h : n ≤ 0) : AQ as n f o := fun j hj => absurd hj (by omega)
