/-- a stack's address in the row of states -/
def AD (i : Int) : Prop := ∃ b s t : Nat, b < 6 ∧ s < 4 ∧ t < 8 ∧ i = 460 * b + 105 * s + 1 + 13 * t
def hiS (j : Nat) : Int := if j % 460 < 420 then (if j % 460 % 105 = 0 then 8 else if (j % 460 % 105 - 1) % 13 = 0 then 12 else 11) else if j % 460 = 421 then 30 else 11
/-- states: each place has its bound -/
def SV (f : Nat → Int32) : Prop := ∀ j, j < 2760 → j % 460 ≠ 420 → 0 ≤ (f j).toInt ∧ (f j).toInt ≤ hiS j
theorem hiS_0 (j : Nat) : 0 ≤ hiS j ∧ hiS j ≤ 30 := by unfold hiS; (repeat' split) <;> omega
theorem SV_const : SV (fun _ => 0) := fun j _ _ => ⟨(show (0 : Int) ≤ (0 : Int32).toInt by decide), (hiS_0 j).1⟩
theorem SV.wr {f : Nat → Int32} {k : Nat} {x : Int32} (h : SV f) (h1 : k % 460 = 420 ∨ 0 ≤ x.toInt ∧ x.toInt ≤ hiS k) : SV (upd f k x) := fun j hj hn => by
  by_cases e : j = k
  · subst e; rw [pk_us]; rcases h1 with q | q
    · exact absurd q hn
    · exact q
  · rw [pk_un e]; exact h j hj hn
theorem hiS_cnt {b s : Nat} (hb : b < 6) (hs : s < 4) : hiS (460 * b + 105 * s) = 8 := by
  have e1 : (460 * b + 105 * s) % 460 = 105 * s := by omega
  unfold hiS; rw [e1, if_pos (by omega), if_pos (by omega)]
theorem stk_mod {b s t r : Nat} (hb : b < 6) (hs : s < 4) (ht : t < 8) (hr : r < 13) : (460 * b + 105 * s + 1 + 13 * t + r) % 460 = 105 * s + 1 + 13 * t + r ∧ (105 * s + 1 + 13 * t + r) % 105 = 1 + 13 * t + r ∧ (1 + 13 * t + r - 1) % 13 = r := by
  refine ⟨by omega, by omega, ?_⟩
  rw [show 1 + 13 * t + r - 1 = r + 13 * t from (by omega), Nat.add_mul_mod_self_left]
  exact Nat.mod_eq_of_lt hr
theorem hiS_stk {b s t r : Nat} (hb : b < 6) (hs : s < 4) (ht : t < 8) (hr : r < 13) : hiS (460 * b + 105 * s + 1 + 13 * t + r) = if r = 0 then 12 else 11 := by
  obtain ⟨e1, e2, e3⟩ := stk_mod hb hs ht hr
  unfold hiS
  rw [e1, if_pos (by omega), e2, if_neg (by omega), e3]
theorem AD.lt {i : Int} (h : AD i) {k : Nat} (hk : (k : Int) ≤ i + 12) : k < 2760 := by obtain ⟨b, s, t, h1, h2, h3, h4⟩ := h; omega
theorem AD.bd {i : Int} (h : AD i) : 1 ≤ i ∧ i ≤ 2707 := by obtain ⟨b, s, t, h1, h2, h3, h4⟩ := h; omega
theorem AD.hi {i : Int} (h : AD i) {k r : Nat} (hr : r < 13) (hk : (k : Int) = i + r) : hiS k = (if r = 0 then 12 else 11) ∧ k % 460 ≠ 420 := by
  obtain ⟨b, s, t, h1, h2, h3, h4⟩ := h
  have e : k = 460 * b + 105 * s + 1 + 13 * t + r := by omega
  rw [e]; refine ⟨hiS_stk h1 h2 h3 hr, ?_⟩
  rw [(stk_mod h1 h2 h3 hr).1]; omega
theorem SV.siz {f : Nat → Int32} (h : SV f) {i : Int} (ha : AD i) {k : Nat} (hk : (k : Int) = i) : 0 ≤ (f k).toInt ∧ (f k).toInt ≤ 12 := by
  obtain ⟨e, hn⟩ := ha.hi (k := k) (r := 0) (by decide) (by omega)
  have := h k (ha.lt (by omega)) hn; rw [e] at this; exact this
theorem SV.war {f : Nat → Int32} (h : SV f) {i : Int} (ha : AD i) {k : Nat} (h1 : i < (k : Int)) (h2 : (k : Int) ≤ i + 12) : 0 ≤ (f k).toInt ∧ (f k).toInt ≤ 11 := by
  have hb := ha.bd
  obtain ⟨e, hn⟩ := ha.hi (k := k) (r := ((k : Int) - i).toNat) (by omega) (by omega)
  have := h k (ha.lt h2) hn; rw [e, if_neg (by omega)] at this; exact this
theorem SV.cnt {f : Nat → Int32} (h : SV f) {b s : Nat} (hb : b < 6) (hs : s < 4) {k : Nat} (hk : k = 460 * b + 105 * s) : 0 ≤ (f k).toInt ∧ (f k).toInt ≤ 8 := by
  have := h k (by omega) (by omega); rw [hk, hiS_cnt hb hs] at this; rw [hk]; exact this
theorem SV.asks {f : Nat → Int32} (h : SV f) {b : Nat} (hb : b < 6) {k : Nat} (hk : k = 460 * b + 421) : 0 ≤ (f k).toInt ∧ (f k).toInt ≤ 30 := by
  have := h k (by omega) (by omega)
  have e : hiS k = 30 := by unfold hiS; rw [if_neg (by omega), if_pos (by omega)]
  rw [e] at this; exact this
theorem SV.ask {f : Nat → Int32} (h : SV f) {b : Nat} (hb : b < 6) {k : Nat} (h1 : 460 * b + 422 ≤ k) (h2 : k < 460 * b + 460) : 0 ≤ (f k).toInt ∧ (f k).toInt ≤ 11 := by
  have := h k (by omega) (by omega)
  have e : hiS k = 11 := by unfold hiS; rw [if_neg (by omega), if_neg (by omega)]
  rw [e] at this; exact this
theorem SV.usiz {f : Nat → Int32} (h : SV f) {i : Int} (ha : AD i) {k : Nat} (hk : (k : Int) = i) {x : Int32} (hx : 0 ≤ x.toInt ∧ x.toInt ≤ 12) : SV (upd f k x) :=
  h.wr (Or.inr (by rw [(ha.hi (k := k) (r := 0) (by decide) (by omega)).1]; exact hx))
theorem SV.uwar {f : Nat → Int32} (h : SV f) {i : Int} (ha : AD i) {k : Nat} (h1 : i < (k : Int)) (h2 : (k : Int) ≤ i + 12) {x : Int32} (hx : 0 ≤ x.toInt ∧ x.toInt ≤ 11) : SV (upd f k x) :=
  h.wr (Or.inr (by have hb := ha.bd; rw [(ha.hi (k := k) (r := ((k : Int) - i).toNat) (by omega) (by omega)).1, if_neg (by omega)]; exact hx))
theorem SV.ucnt {f : Nat → Int32} (h : SV f) {b s : Nat} (hb : b < 6) (hs : s < 4) {k : Nat} (hk : k = 460 * b + 105 * s) {x : Int32} (hx : 0 ≤ x.toInt ∧ x.toInt ≤ 8) : SV (upd f k x) :=
  h.wr (Or.inr (by rw [hk, hiS_cnt hb hs]; exact hx))
theorem SV.uasks {f : Nat → Int32} (h : SV f) {b : Nat} (hb : b < 6) {k : Nat} (hk : k = 460 * b + 421) {x : Int32} (hx : 0 ≤ x.toInt ∧ x.toInt ≤ 30) : SV (upd f k x) :=
  h.wr (Or.inr (by
    have e : hiS k = 30 := by unfold hiS; rw [if_neg (by omega), if_pos (by omega)]
    rw [e]; exact hx))
theorem SV.uask {f : Nat → Int32} (h : SV f) {b : Nat} (hb : b < 6) {k : Nat} (h1 : 460 * b + 422 ≤ k) (h2 : k < 460 * b + 460) {x : Int32} (hx : 0 ≤ x.toInt ∧ x.toInt ≤ 11) : SV (upd f k x) :=
  h.wr (Or.inr (by
    have e : hiS k = 11 := by unfold hiS; rw [if_neg (by omega), if_neg (by omega)]
    rw [e]; exact hx))
/-- the wares of a stack differ -/
def DSt (f : Nat → Int32) (i : Nat) : Prop := ∀ p q : Nat, p < q → (q : Int) < (f i).toInt → f (i + 1 + p) ≠ f (i + 1 + q)
def DS (f : Nat → Int32) : Prop := ∀ i : Nat, AD (i : Int) → DSt f i
def DR (f : Nat → Int32) (n : Int) : Prop := ∀ p q : Nat, p < q → (q : Int) < n → f p ≠ f q
/-- no more stacks than the room has -/
def CRs (f t : Nat → Int32) (b : Nat) : Prop := ∀ s : Nat, s < 4 → (f (460 * b + 105 * s)).toInt ≤ (t (101 + 3 * s)).toInt
theorem pig : ∀ (m n : Nat) (g : Nat → Nat), (∀ p, p < n → g p < m) → (∀ p q, p < q → q < n → g p ≠ g q) → n ≤ m := by
  intro m
  induction m with
  | zero => intro n g h1 _; rcases Nat.eq_zero_or_pos n with q | q
            · omega
            · exact absurd (h1 0 q) (by omega)
  | succ m ih =>
    intro n g h1 h2
    by_cases hx : ∃ p, p < n ∧ g p = m
    · obtain ⟨p, hp, hg⟩ := hx
      have := ih (n - 1) (fun q => if q = p then g (n - 1) else g q) (fun q hq => by
        show (if q = p then g (n - 1) else g q) < m
        by_cases e : q = p
        · rw [if_pos e]
          have a1 := h1 (n - 1) (by omega)
          have a2 := h2 p (n - 1) (by omega) (by omega)
          omega
        · rw [if_neg e]
          have a1 := h1 q (by omega)
          have a2 : g q ≠ g p := by
            rcases Nat.lt_or_ge q p with z | z
            · exact h2 q p z hp
            · exact fun z2 => h2 p q (by omega) (by omega) z2.symm
          omega) (fun q r hqr hr => by
        show (if q = p then g (n - 1) else g q) ≠ (if r = p then g (n - 1) else g r)
        by_cases e : q = p
        · rw [if_pos e, if_neg (by omega)]; exact fun z => h2 r (n - 1) (by omega) (by omega) z.symm
        · rw [if_neg e]
          by_cases e2 : r = p
          · rw [if_pos e2]; exact h2 q (n - 1) (by omega) (by omega)
          · rw [if_neg e2]; exact h2 q r hqr (by omega))
      omega
    · have := ih n g (fun p hp => by
        have a1 := h1 p hp
        have a2 : g p ≠ m := fun z => hx ⟨p, hp, z⟩
        omega) h2
      omega
/-- a row of wares that differ, none of them w: at most eleven -/
theorem pig12 {f : Nat → Int32} {n : Nat} {w : Int32} (hf : ∀ p, p < n → 0 ≤ (f p).toInt ∧ (f p).toInt ≤ 11) (hd : ∀ p q, p < q → q < n → f p ≠ f q) (hw : 0 ≤ w.toInt ∧ w.toInt ≤ 11) (hn : ∀ p, p < n → f p ≠ w) : n ≤ 11 := by
  have := pig 12 (n + 1) (fun p => if p = n then w.toInt.toNat else (f p).toInt.toNat) (fun p hp => by
    show (if p = n then w.toInt.toNat else (f p).toInt.toNat) < 12
    by_cases e : p = n
    · rw [if_pos e]; omega
    · rw [if_neg e]; have := hf p (by omega); omega) (fun p q hpq hq => by
    show (if p = n then w.toInt.toNat else (f p).toInt.toNat) ≠ (if q = n then w.toInt.toNat else (f q).toInt.toNat)
    rw [if_neg (by omega)]
    have a := hf p (by omega)
    by_cases e : q = n
    · rw [if_pos e]
      have b := hn p (by omega)
      intro z; exact b ((i_eq _ _).mpr (by omega))
    · rw [if_neg e]
      have b := hf q (by omega)
      have c := hd p q hpq (by omega)
      intro z; exact c ((i_eq _ _).mpr (by omega)))
  omega
