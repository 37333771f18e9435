/-- between two signs; blanks; signs of their own -/
def isR (lo hi : Int32) (c : Int32) : Bool := decide (lo.toInt ≤ c.toInt ∧ c.toInt ≤ hi.toInt)
def isB (c : Int32) : Bool := decide (c.toInt = 10 ∨ c.toInt = 32)
def isS (c : Int32) : Bool := decide (c.toInt = 40 ∨ c.toInt = 41 ∨ c.toInt = 60 ∨ c.toInt = 61 ∨ c.toInt = 43 ∨ c.toInt = 45 ∨ c.toInt = 42 ∨ c.toInt = 59)
/-- e is the end of the run of such signs from i on -/
def RE (P : Int32 → Bool) (f : Nat → Int32) (n i e : Nat) : Prop := i ≤ e ∧ (∀ j : Nat, i ≤ j → j < e → j < n ∧ P (f j) = true) ∧ ¬ (e < n ∧ P (f e) = true)
theorem RE.uniq {P : Int32 → Bool} {f : Nat → Int32} {n i e1 e2 : Nat} (h1 : RE P f n i e1) (h2 : RE P f n i e2) : e1 = e2 := by
  rcases Nat.lt_trichotomy e1 e2 with q | q | q
  · exact absurd (h2.2.1 e1 h1.1 q) h1.2.2
  · exact q
  · exact absurd (h1.2.1 e2 h2.1 q) h2.2.2
def run (P : Int32 → Bool) (f : Nat → Int32) (n : Nat) : Nat → Nat → Nat
  | 0, i => i
  | k + 1, i => if i < n ∧ P (f i) = true then run P f n k (i + 1) else i
theorem run_RE {P : Int32 → Bool} {f : Nat → Int32} {n : Nat} : ∀ k i, n ≤ i + k → RE P f n i (run P f n k i) := by
  intro k
  induction k with
  | zero => intro i h; exact ⟨Nat.le_refl _, fun j h1 h2 => absurd h2 (by show ¬ j < i; omega), fun h2 => by have : i < n := h2.1; omega⟩
  | succ k ih =>
    intro i h
    by_cases q : i < n ∧ P (f i) = true
    · have e : run P f n (k + 1) i = run P f n k (i + 1) := if_pos q
      rw [e]
      have h1 := ih (i + 1) (by omega)
      refine ⟨by have := h1.1; omega, fun j j1 j2 => ?_, h1.2.2⟩
      rcases Nat.lt_or_ge i j with z | z
      · exact h1.2.1 j (by omega) j2
      · have ej : j = i := by omega
        rw [ej]; exact q
    · have e : run P f n (k + 1) i = i := if_neg q
      rw [e]
      exact ⟨Nat.le_refl _, fun j h1 h2 => absurd h2 (by omega), q⟩
def rn (P : Int32 → Bool) (f : Nat → Int32) (n i : Nat) : Nat := run P f n n i
theorem rn_RE (P : Int32 → Bool) (f : Nat → Int32) (n i : Nat) : RE P f n i (rn P f n i) := run_RE n i (by omega)
theorem RE.rn {P : Int32 → Bool} {f : Nat → Int32} {n i e : Nat} (h : RE P f n i e) : e = rn P f n i := h.uniq (rn_RE P f n i)
/-- the token looked for from i on: its place, where it ends, its kind -/
def tP (f : Nat → Int32) (n i : Nat) : Nat := rn isB f n i
def tW (f : Nat → Int32) (n i : Nat) : Nat := rn (isR 97 122) f n (tP f n i)
def tD (f : Nat → Int32) (n i : Nat) : Nat := rn (isR 48 57) f n (tP f n i)
def tE (f : Nat → Int32) (n i : Nat) : Nat := if n ≤ tP f n i then tP f n i else if tP f n i < tW f n i then tW f n i else if tP f n i < tD f n i then tD f n i else tP f n i + 1
def tK (f : Nat → Int32) (n i : Nat) : Int := if n ≤ tP f n i then 0 else if tP f n i < tW f n i then (if tW f n i ≤ tP f n i + 8 then 1 else 4) else if tP f n i < tD f n i then (if tD f n i ≤ tP f n i + 4 then 2 else 4) else if isS (f (tP f n i)) = true then 3 else 4
/-- where the a-th token is looked for -/
def qq (f : Nat → Int32) (n : Nat) : Nat → Nat
  | 0 => 0
  | a + 1 => tE f n (qq f n a)
/-- two texts that agree have the same tokens -/
theorem RE.cong {P : Int32 → Bool} {f g : Nat → Int32} {n i e : Nat} (h : RE P f n i e) (hg : ∀ j : Nat, j < n → g j = f j) : RE P g n i e :=
  ⟨h.1, fun j j1 j2 => by have := h.2.1 j j1 j2; exact ⟨this.1, by rw [hg j this.1]; exact this.2⟩, fun z => h.2.2 ⟨z.1, by rw [← hg e z.1]; exact z.2⟩⟩
theorem rn_cong {P : Int32 → Bool} {f g : Nat → Int32} {n i : Nat} (hg : ∀ j : Nat, j < n → g j = f j) : rn P g n i = rn P f n i := ((rn_RE P f n i).cong hg).rn.symm
theorem tP_cong {f g : Nat → Int32} {n i : Nat} (hg : ∀ j : Nat, j < n → g j = f j) : tP g n i = tP f n i := rn_cong hg
theorem tE_cong {f g : Nat → Int32} {n i : Nat} (hg : ∀ j : Nat, j < n → g j = f j) : tE g n i = tE f n i := by
  unfold tE tW tD; rw [tP_cong hg, rn_cong hg, rn_cong hg]
theorem tK_cong {f g : Nat → Int32} {n i : Nat} (hg : ∀ j : Nat, j < n → g j = f j) : tK g n i = tK f n i := by
  unfold tK tW tD; rw [tP_cong hg, rn_cong hg, rn_cong hg]
  by_cases q : n ≤ tP f n i
  · rw [if_pos q, if_pos q]
  · rw [hg _ (by omega)]
theorem tPP {f : Nat → Int32} {n i : Nat} : tP f n (tP f n i) = tP f n i := by
  have h := rn_RE isB f n i
  exact (RE.rn (P := isB) (f := f) (n := n) (i := tP f n i) (e := tP f n i) ⟨Nat.le_refl _, fun j h1 h2 => absurd h2 (by omega), h.2.2⟩).symm
theorem tP_ge {f : Nat → Int32} {n i : Nat} : i ≤ tP f n i := (rn_RE isB f n i).1
theorem tE_P {f : Nat → Int32} {n i : Nat} : tE f n (tP f n i) = tE f n i := by unfold tE tW tD; rw [tPP]
theorem tK_P {f : Nat → Int32} {n i : Nat} : tK f n (tP f n i) = tK f n i := by unfold tK tW tD; rw [tPP]
/-- digits -/
def cd (B : Nat) (d : Nat → Nat) : Nat → Nat
  | 0 => 0
  | k + 1 => B * cd B d k + d k
theorem cd_lt {B : Nat} {d : Nat → Nat} : ∀ k, (∀ j, j < k → d j < B) → cd B d k < B ^ k := by
  intro k
  induction k with
  | zero => intro _; rw [Nat.pow_zero]; exact Nat.zero_lt_one
  | succ k ih =>
    intro h
    have h1 := ih (fun j hj => h j (by omega))
    have h2 := h k (by omega)
    show B * cd B d k + d k < B ^ (k + 1)
    have h3 : B * (cd B d k + 1) ≤ B * B ^ k := Nat.mul_le_mul_left B h1
    rw [Nat.mul_add, Nat.mul_one] at h3
    have h4 : B ^ (k + 1) = B * B ^ k := by rw [Nat.pow_succ, Nat.mul_comm]
    rw [h4]; omega
theorem cd_congr {B : Nat} {d d' : Nat → Nat} : ∀ k, (∀ j, j < k → d j = d' j) → cd B d k = cd B d' k := by
  intro k
  induction k with
  | zero => intro _; rfl
  | succ k ih =>
    intro h
    show B * cd B d k + d k = B * cd B d' k + d' k
    rw [ih (fun j hj => h j (by omega)), h k (by omega)]
theorem cd_inj {B : Nat} {d d' : Nat → Nat} : ∀ k k', (∀ j, j < k → 1 ≤ d j ∧ d j < B) → (∀ j, j < k' → 1 ≤ d' j ∧ d' j < B) → cd B d k = cd B d' k' → k = k' ∧ ∀ j, j < k → d j = d' j := by
  intro k
  induction k with
  | zero =>
    intro k' _ h' e
    cases k' with
    | zero => exact ⟨rfl, fun j hj => absurd hj (Nat.not_lt_zero j)⟩
    | succ m =>
      have h1 := h' m (by omega)
      have e' : (0 : Nat) = B * cd B d' m + d' m := e
      omega
  | succ n ih =>
    intro k' h h' e
    cases k' with
    | zero =>
      have h1 := h n (by omega)
      have e' : B * cd B d n + d n = 0 := e
      omega
    | succ m =>
      have h1 := h n (by omega)
      have h2 := h' m (by omega)
      have e' : B * cd B d n + d n = B * cd B d' m + d' m := e
      have e1 : d n = d' m := by
        have a : (B * cd B d n + d n) % B = (B * cd B d' m + d' m) % B := by rw [e']
        rw [Nat.mul_add_mod, Nat.mul_add_mod, Nat.mod_eq_of_lt h1.2, Nat.mod_eq_of_lt h2.2] at a
        exact a
      have e2 : cd B d n = cd B d' m := Nat.eq_of_mul_eq_mul_left (show 0 < B by omega) (by omega)
      obtain ⟨q1, q2⟩ := ih m (fun j hj => h j (by omega)) (fun j hj => h' j (by omega)) e2
      subst q1
      refine ⟨rfl, fun j hj => ?_⟩
      rcases Nat.lt_or_ge j n with z | z
      · exact q2 j z
      · have : j = n := by omega
        rw [this]; exact e1
theorem fb64 {z : Int} (h1 : -9223372036854775808 ≤ z) (h2 : z < 9223372036854775808) : z.bmod (2 ^ 64) = z := by
  rw [Int.bmod_def]; split <;> omega
theorem a64 {x y : Int64} {a b : Int} (hx : x.toInt = a) (hy : y.toInt = b) (h1 : -9223372036854775808 ≤ a + b) (h2 : a + b < 9223372036854775808) : (x + y).toInt = a + b := by rw [Int64.toInt_add, hx, hy, fb64 h1 h2]
theorem s64 {x y : Int64} {a b : Int} (hx : x.toInt = a) (hy : y.toInt = b) (h1 : -9223372036854775808 ≤ a - b) (h2 : a - b < 9223372036854775808) : (x - y).toInt = a - b := by rw [Int64.toInt_sub, hx, hy, fb64 h1 h2]
theorem m64 {x y : Int64} {a b : Int} (hx : x.toInt = a) (hy : y.toInt = b) (h1 : -9223372036854775808 ≤ a * b) (h2 : a * b < 9223372036854775808) : (x * y).toInt = a * b := by rw [Int64.toInt_mul, hx, hy, fb64 h1 h2]
/-- the number of a word, as the class has it and as the reference has it; a number's worth -/
def e32 (f : Nat → Int32) (p : Nat) : Nat → Int64
  | 0 => 0
  | k + 1 => e32 f p k * 32 + (f (p + k)).toInt64 - 97 + 1
def e37 (f : Nat → Int32) (p : Nat) : Nat → Int64
  | 0 => 0
  | k + 1 => 37 * e37 f p k + (f (p + k) - 96).toInt64
def e10 (f : Nat → Int32) (p : Nat) : Nat → Int64
  | 0 => 0
  | k + 1 => 10 * e10 f p k + (f (p + k)).toInt64 - 48
def nV (f : Nat → Int32) (a : Nat) : Nat → Int
  | 0 => 0
  | k + 1 => 10 * nV f a k + (f (a + k)).toInt - 48
def dgt (f : Nat → Int32) (p j : Nat) : Nat := ((f (p + j)).toInt - 96).toNat
def LT8 (f : Nat → Int32) (p k : Nat) : Prop := k ≤ 8 ∧ ∀ j, j < k → 97 ≤ (f (p + j)).toInt ∧ (f (p + j)).toInt ≤ 122
theorem LT8.lo {f : Nat → Int32} {p k : Nat} (h : LT8 f p (k + 1)) : LT8 f p k := ⟨by have := h.1; omega, fun j hj => h.2 j (by omega)⟩
theorem LT8.dg {f : Nat → Int32} {p k : Nat} (h : LT8 f p k) {B : Nat} (hB : 27 ≤ B) : ∀ j, j < k → 1 ≤ dgt f p j ∧ dgt f p j < B := fun j hj => by have := h.2 j hj; unfold dgt; omega
theorem e32_cd {f : Nat → Int32} {p : Nat} : ∀ k, LT8 f p k → (e32 f p k).toInt = ((cd 32 (dgt f p) k : Nat) : Int) := by
  intro k
  induction k with
  | zero => intro _; rfl
  | succ k ih =>
    intro h
    have hk := h.1
    have a := ih h.lo
    have b := h.2 k (by omega)
    have c : cd 32 (dgt f p) k < 32 ^ k := cd_lt k (fun j hj => (h.lo.dg (B := 32) (by decide) j hj).2)
    have d : 32 ^ k ≤ 32 ^ 7 := Nat.pow_le_pow_right (by decide) (by omega)
    have d2 : (32 : Nat) ^ 7 = 34359738368 := by decide
    have e : (dgt f p k : Int) = (f (p + k)).toInt - 96 := by unfold dgt; omega
    show (e32 f p k * 32 + (f (p + k)).toInt64 - 97 + 1).toInt = ((32 * cd 32 (dgt f p) k + dgt f p k : Nat) : Int)
    have l1 : (32 : Int64).toInt = 32 := rfl
    have l2 : (97 : Int64).toInt = 97 := rfl
    have l3 : (1 : Int64).toInt = 1 := rfl
    rw [a64 (s64 (a64 (m64 a l1 (by omega) (by omega)) (Int32.toInt_toInt64 _) (by omega) (by omega)) l2 (by omega) (by omega)) l3 (by omega) (by omega)]
    omega
theorem e37_cd {f : Nat → Int32} {p : Nat} : ∀ k, LT8 f p k → (e37 f p k).toInt = ((cd 37 (dgt f p) k : Nat) : Int) := by
  intro k
  induction k with
  | zero => intro _; rfl
  | succ k ih =>
    intro h
    have hk := h.1
    have a := ih h.lo
    have b := h.2 k (by omega)
    have c : cd 37 (dgt f p) k < 37 ^ k := cd_lt k (fun j hj => (h.lo.dg (B := 37) (by decide) j hj).2)
    have d : 37 ^ k ≤ 37 ^ 7 := Nat.pow_le_pow_right (by decide) (by omega)
    have d2 : (37 : Nat) ^ 7 = 94931877133 := by decide
    have e : (dgt f p k : Int) = (f (p + k)).toInt - 96 := by unfold dgt; omega
    show (37 * e37 f p k + (f (p + k) - 96).toInt64).toInt = ((37 * cd 37 (dgt f p) k + dgt f p k : Nat) : Int)
    have l1 : (37 : Int64).toInt = 37 := rfl
    have l2 : (96 : Int32).toInt = 96 := rfl
    have g : (f (p + k) - 96).toInt64.toInt = (f (p + k)).toInt - 96 := by rw [Int32.toInt_toInt64, fb_subI (by rw [l2]; omega) (by rw [l2]; omega), l2]
    rw [a64 (m64 l1 a (by omega) (by omega)) g (by omega) (by omega)]
    omega
theorem e10_nV {f : Nat → Int32} {p : Nat} : ∀ k, k ≤ 4 → (∀ j, j < k → 48 ≤ (f (p + j)).toInt ∧ (f (p + j)).toInt ≤ 57) → (e10 f p k).toInt = nV f p k ∧ 0 ≤ nV f p k ∧ nV f p k + 1 ≤ (10 ^ k : Nat) := by
  intro k
  induction k with
  | zero => intro _ _; exact ⟨rfl, Int.le_refl 0, by show (0 : Int) + 1 ≤ ((10 ^ 0 : Nat) : Int); decide⟩
  | succ k ih =>
    intro hk h
    obtain ⟨a, a1, a2⟩ := ih (by omega) (fun j hj => h j (by omega))
    have b := h k (by omega)
    have d : 10 ^ k ≤ 10 ^ 3 := Nat.pow_le_pow_right (by decide) (by omega)
    have d2 : (10 : Nat) ^ 3 = 1000 := by decide
    have d3 : (10 : Nat) ^ (k + 1) = 10 * 10 ^ k := by rw [Nat.pow_succ, Nat.mul_comm]
    have l1 : (10 : Int64).toInt = 10 := rfl
    have l2 : (48 : Int64).toInt = 48 := rfl
    have e0 : nV f p (k + 1) = 10 * nV f p k + (f (p + k)).toInt - 48 := rfl
    refine ⟨?_, by omega, by rw [d3]; omega⟩
    show (10 * e10 f p k + (f (p + k)).toInt64 - 48).toInt = _
    rw [s64 (a64 (m64 l1 a (by omega) (by omega)) (Int32.toInt_toInt64 _) (by omega) (by omega)) l2 (by omega) (by omega)]
    rfl
theorem e32_same {f g : Nat → Int32} {p q k m : Nat} (h1 : LT8 f p k) (h2 : LT8 g q m) : e32 f p k = e32 g q m ↔ (k = m ∧ ∀ j, j < k → dgt f p j = dgt g q j) := by
  constructor
  · intro e
    have a := e32_cd k h1; have b := e32_cd m h2
    rw [e, b] at a
    exact cd_inj k m (h1.dg (by decide)) (h2.dg (by decide)) (Int.ofNat.inj a.symm)
  · rintro ⟨rfl, h⟩
    apply Int64.toInt_inj.mp
    rw [e32_cd k h1, e32_cd k h2, cd_congr k h]
theorem e37_same {f g : Nat → Int32} {p q k m : Nat} (h1 : LT8 f p k) (h2 : LT8 g q m) : e37 f p k = e37 g q m ↔ (k = m ∧ ∀ j, j < k → dgt f p j = dgt g q j) := by
  constructor
  · intro e
    have a := e37_cd k h1; have b := e37_cd m h2
    rw [e, b] at a
    exact cd_inj k m (h1.dg (by decide)) (h2.dg (by decide)) (Int.ofNat.inj a.symm)
  · rintro ⟨rfl, h⟩
    apply Int64.toInt_inj.mp
    rw [e37_cd k h1, e37_cd k h2, cd_congr k h]
/-- one name, as the class keeps it and as the reference does -/
def NMR (c v : Int64) : Prop := ∃ (f : Nat → Int32) (p k : Nat), LT8 f p k ∧ c = e32 f p k ∧ v = e37 f p k
theorem NMR.iff {c v c' v' : Int64} (h1 : NMR c v) (h2 : NMR c' v') : c = c' ↔ v = v' := by
  obtain ⟨f, p, k, a1, a2, a3⟩ := h1
  obtain ⟨g, q, m, b1, b2, b3⟩ := h2
  rw [a2, a3, b2, b3]
  exact (e32_same a1 b1).trans (e37_same a1 b1).symm
/-- the text as tokens by their places: kind, worth, the next one's place -/
def tV (f : Nat → Int32) (n p : Nat) : Int64 := if tK f n p = 1 then e37 f (tP f n p) (tE f n p - tP f n p) else if tK f n p = 2 then e10 f (tP f n p) (tE f n p - tP f n p) else (f (tP f n p)).toInt64
def TT (f : Nat → Int32) (n p : Nat) : Int × Int64 × Nat := (tK f n p, tV f n p, tP f n (tE f n p))
theorem tK_1 {f : Nat → Int32} {n i : Nat} (h : tK f n i = 1) : tP f n i < n ∧ tE f n i = tW f n i ∧ tP f n i < tW f n i ∧ tW f n i ≤ tP f n i + 8 := by
  unfold tK at h
  by_cases q0 : n ≤ tP f n i
  · rw [if_pos q0] at h; exact absurd h (by decide)
  · rw [if_neg q0] at h
    by_cases q1 : tP f n i < tW f n i
    · rw [if_pos q1] at h
      by_cases q2 : tW f n i ≤ tP f n i + 8
      · refine ⟨by omega, ?_, q1, q2⟩
        unfold tE; rw [if_neg q0, if_pos q1]
      · rw [if_neg q2] at h; exact absurd h (by decide)
    · rw [if_neg q1] at h
      by_cases q2 : tP f n i < tD f n i
      · rw [if_pos q2] at h
        by_cases q3 : tD f n i ≤ tP f n i + 4
        · rw [if_pos q3] at h; exact absurd h (by decide)
        · rw [if_neg q3] at h; exact absurd h (by decide)
      · rw [if_neg q2] at h
        by_cases q3 : isS (f (tP f n i)) = true
        · rw [if_pos q3] at h; exact absurd h (by decide)
        · rw [if_neg q3] at h; exact absurd h (by decide)
theorem tK_2 {f : Nat → Int32} {n i : Nat} (h : tK f n i = 2) : tP f n i < n ∧ tE f n i = tD f n i ∧ tP f n i < tD f n i ∧ tD f n i ≤ tP f n i + 4 := by
  unfold tK at h
  by_cases q0 : n ≤ tP f n i
  · rw [if_pos q0] at h; exact absurd h (by decide)
  · rw [if_neg q0] at h
    by_cases q1 : tP f n i < tW f n i
    · rw [if_pos q1] at h
      by_cases q2 : tW f n i ≤ tP f n i + 8
      · rw [if_pos q2] at h; exact absurd h (by decide)
      · rw [if_neg q2] at h; exact absurd h (by decide)
    · rw [if_neg q1] at h
      by_cases q2 : tP f n i < tD f n i
      · rw [if_pos q2] at h
        by_cases q3 : tD f n i ≤ tP f n i + 4
        · refine ⟨by omega, ?_, q2, q3⟩
          unfold tE; rw [if_neg q0, if_neg q1, if_pos q2]
        · rw [if_neg q3] at h; exact absurd h (by decide)
      · rw [if_neg q2] at h
        by_cases q3 : isS (f (tP f n i)) = true
        · rw [if_pos q3] at h; exact absurd h (by decide)
        · rw [if_neg q3] at h; exact absurd h (by decide)
theorem tE_gt {f : Nat → Int32} {n i : Nat} (h : tP f n i < n) : tP f n i < tE f n i := by
  unfold tE
  rw [if_neg (by omega)]
  by_cases q1 : tP f n i < tW f n i
  · rw [if_pos q1]; exact q1
  · rw [if_neg q1]
    by_cases q2 : tP f n i < tD f n i
    · rw [if_pos q2]; exact q2
    · rw [if_neg q2]; omega
theorem tK_0 {f : Nat → Int32} {n i : Nat} (h : ¬ tK f n i = 0) : tP f n i < n := by
  rcases Nat.lt_or_ge (tP f n i) n with q | q
  · exact q
  · exact absurd (show tK f n i = 0 from if_pos q) h
theorem isR_iff {lo hi c : Int32} : isR lo hi c = true ↔ lo.toInt ≤ c.toInt ∧ c.toInt ≤ hi.toInt := ⟨fun h => of_decide_eq_true h, fun h => decide_eq_true h⟩
theorem tK_LT8 {f : Nat → Int32} {n i : Nat} (h : tK f n i = 1) : LT8 f (tP f n i) (tE f n i - tP f n i) := by
  obtain ⟨h1, h2, h3, h4⟩ := tK_1 h
  rw [h2]
  refine ⟨by omega, fun j hj => ?_⟩
  have h5 := (rn_RE (isR 97 122) f n (tP f n i)).2.1 (tP f n i + j) (by omega) (by show tP f n i + j < tW f n i; omega)
  exact isR_iff.mp h5.2
theorem tK_dig {f : Nat → Int32} {n i : Nat} (h : tK f n i = 2) : tE f n i - tP f n i ≤ 4 ∧ ∀ j, j < tE f n i - tP f n i → 48 ≤ (f (tP f n i + j)).toInt ∧ (f (tP f n i + j)).toInt ≤ 57 := by
  obtain ⟨h1, h2, h3, h4⟩ := tK_2 h
  rw [h2]
  refine ⟨by omega, fun j hj => ?_⟩
  have h5 := (rn_RE (isR 48 57) f n (tP f n i)).2.1 (tP f n i + j) (by omega) (by show tP f n i + j < tD f n i; omega)
  exact isR_iff.mp h5.2
/-- what holds of each table of tokens -/
def PT (T : Nat → Int × Int64 × Nat) : Prop := ∀ p, ¬ (T p).1 = 0 → p < 1000 ∧ p < (T p).2.2
theorem PT_TT {f : Nat → Int32} {n : Nat} (hn : n ≤ 1000) : PT (TT f n) := fun p h => by
  have h1 := tK_0 h
  have h2 := tE_gt h1
  have h3 : p ≤ tP f n p := tP_ge
  have h4 : tE f n p ≤ tP f n (tE f n p) := tP_ge
  exact ⟨by omega, show p < tP f n (tE f n p) by omega⟩
theorem e37_cong {f g : Nat → Int32} {p : Nat} : ∀ k, (∀ j, j < k → g (p + j) = f (p + j)) → e37 g p k = e37 f p k := by
  intro k
  induction k with
  | zero => intro _; rfl
  | succ k ih =>
    intro h
    show 37 * e37 g p k + (g (p + k) - 96).toInt64 = 37 * e37 f p k + (f (p + k) - 96).toInt64
    rw [ih (fun j hj => h j (by omega)), h k (by omega)]
theorem e10_cong {f g : Nat → Int32} {p : Nat} : ∀ k, (∀ j, j < k → g (p + j) = f (p + j)) → e10 g p k = e10 f p k := by
  intro k
  induction k with
  | zero => intro _; rfl
  | succ k ih =>
    intro h
    show 10 * e10 g p k + (g (p + k)).toInt64 - 48 = 10 * e10 f p k + (f (p + k)).toInt64 - 48
    rw [ih (fun j hj => h j (by omega)), h k (by omega)]
theorem rn_le {P : Int32 → Bool} {f : Nat → Int32} {n i : Nat} (h : i ≤ n) : rn P f n i ≤ n := by
  have h1 := rn_RE P f n i
  rcases Nat.lt_or_ge n (rn P f n i) with q | q
  · exact absurd (h1.2.1 n h q).1 (by omega)
  · exact q
theorem tE_le {f : Nat → Int32} {n i : Nat} (h : tP f n i < n) : tE f n i ≤ n := by
  unfold tE
  rw [if_neg (by omega)]
  by_cases q1 : tP f n i < tW f n i
  · rw [if_pos q1]; exact rn_le (by omega)
  · rw [if_neg q1]
    by_cases q2 : tP f n i < tD f n i
    · rw [if_pos q2]; exact rn_le (by omega)
    · rw [if_neg q2]; omega
/-- kinds 0 and 4 have no worth -/
def tV0 (f : Nat → Int32) (n p : Nat) : Int64 := if tK f n p = 1 ∨ tK f n p = 2 ∨ tK f n p = 3 then tV f n p else 0
def TKS (f : Nat → Int32) (n p : Nat) : Int × Int64 × Nat := (tK f n p, tV0 f n p, tP f n (tE f n p))
theorem TKS_cong {f g : Nat → Int32} {n : Nat} (hg : ∀ j : Nat, j < n → g j = f j) : TKS g n = TKS f n := by
  funext p
  have h1 := tP_cong (i := p) hg
  have h2 := tE_cong (i := p) hg
  have h3 := tK_cong (i := p) hg
  have h4 : tV0 g n p = tV0 f n p := by
    unfold tV0
    rw [h3]
    by_cases q : tK f n p = 1 ∨ tK f n p = 2 ∨ tK f n p = 3
    · rw [if_pos q, if_pos q]
      have h5 : tP f n p < n := tK_0 (by omega)
      have h6 := tE_le h5
      have h7 := tE_gt h5
      unfold tV
      rw [h1, h2, h3, hg _ h5, e37_cong _ (fun j hj => hg _ (by omega)), e10_cong _ (fun j hj => hg _ (by omega))]
    · rw [if_neg q, if_neg q]
  show (tK g n p, tV0 g n p, tP g n (tE g n p)) = (tK f n p, tV0 f n p, tP f n (tE f n p))
  rw [h3, h4, h2, tP_cong hg]
theorem PT_TKS {f : Nat → Int32} {n : Nat} (hn : n ≤ 1000) : PT (TKS f n) := fun p h => PT_TT (f := f) hn p h

/-- a word, a sign at a place -/
def nx (T : Nat → Int × Int64 × Nat) (p : Nat) : Nat := (T p).2.2
def isW (T : Nat → Int × Int64 × Nat) (p : Nat) (w : Int64) : Bool := decide ((T p).1 = 1 ∧ (T p).2.1 = w)
def isG (T : Nat → Int × Int64 × Nat) (p : Nat) (c : Int32) : Bool := decide ((T p).1 = 3 ∧ (T p).2.1 = c.toInt64)
def wI (T : Nat → Int × Int64 × Nat) (p : Nat) (w : Int64) : Int := if isW T p w = true then 1 else 0
def gI (T : Nat → Int × Int64 × Nat) (p : Nat) (c : Int32) : Int := if isG T p c = true then 1 else 0
theorem wI_01 (T : Nat → Int × Int64 × Nat) (p : Nat) (w : Int64) : wI T p w = 0 ∨ wI T p w = 1 := by unfold wI; split <;> omega
theorem gI_01 (T : Nat → Int × Int64 × Nat) (p : Nat) (c : Int32) : gI T p c = 0 ∨ gI T p c = 1 := by unfold gI; split <;> omega
theorem wI_1 {T : Nat → Int × Int64 × Nat} {p : Nat} {w : Int64} : wI T p w = 1 ↔ isW T p w = true := by
  unfold wI; constructor
  · intro h; by_cases q : isW T p w = true
    · exact q
    · rw [if_neg q] at h; exact absurd h (by decide)
  · intro h; rw [if_pos h]
theorem gI_1 {T : Nat → Int × Int64 × Nat} {p : Nat} {c : Int32} : gI T p c = 1 ↔ isG T p c = true := by
  unfold gI; constructor
  · intro h; by_cases q : isG T p c = true
    · exact q
    · rw [if_neg q] at h; exact absurd h (by decide)
  · intro h; rw [if_pos h]
theorem wI_0 {T : Nat → Int × Int64 × Nat} {p : Nat} {w : Int64} : wI T p w = 0 ↔ ¬ isW T p w = true := by
  have a := wI_01 T p w
  constructor
  · intro h q; rw [wI_1.mpr q] at h; exact absurd h (by decide)
  · intro h; rcases a with a | a
    · exact a
    · exact absurd (wI_1.mp a) h
theorem gI_0 {T : Nat → Int × Int64 × Nat} {p : Nat} {c : Int32} : gI T p c = 0 ↔ ¬ isG T p c = true := by
  have a := gI_01 T p c
  constructor
  · intro h q; rw [gI_1.mpr q] at h; exact absurd h (by decide)
  · intro h; rcases a with a | a
    · exact a
    · exact absurd (gI_1.mp a) h
/-- the numbers of the language's words -/
def WN (k : Nat) : Int64 := [122704, 16765, 36021578, 27951, 15047032, 716710, 1177493, 209658, 1604747592, 4003641, 172677872, 564588237, 33989651, 932857, 19741, 1891, 573, 17595960, 29203711, 17006, 22955708, 15248761, 40072202].getD k 0
/-- a FAULT; on behind what was right -/
def flt (k : Int) (p : Nat) : Nat × Int := (p, k + 16 * (p : Int))
def bnd (r : Nat × Int) (g : Nat → Nat × Int) : Nat × Int := if r.2 = 0 then g r.1 else r
theorem bnd_ok {r : Nat × Int} {q : Nat} {g : Nat → Nat × Int} (h : r = (q, 0)) : bnd r g = g q := by rw [h]; exact if_pos rfl
theorem bnd_bad {r : Nat × Int} {g : Nat → Nat × Int} (h : ¬ r.2 = 0) : bnd r g = r := if_neg h
def rSign (T : Nat → Int × Int64 × Nat) (c : Int32) (p : Nat) : Nat × Int := if isG T p c = true then (nx T p, 0) else flt 1 p
def rNum (T : Nat → Int × Int64 × Nat) (lo hi : Int) (p : Nat) : Nat × Int := if (T p).1 = 2 then (if lo ≤ (T p).2.1.toInt ∧ (T p).2.1.toInt ≤ hi then (nx T p, 0) else flt 4 p) else flt 1 p
def rAmt (T : Nat → Int × Int64 × Nat) (w : Int64) (lo hi : Int) (p : Nat) : Nat × Int := if isW T p w = true then rNum T lo hi (nx T p) else flt 1 p
/-- a chain of parts -/
def chn (sub : Nat → Nat × Int) (nxt : Nat → Nat) (jn : Nat → Bool) : Nat → Nat × Int → Nat × Int
  | 0, r => r
  | k + 1, r => if r.2 = 0 ∧ jn r.1 = true then chn sub nxt jn k (sub (nxt r.1)) else r
theorem chn_bad {sub : Nat → Nat × Int} {nxt : Nat → Nat} {jn : Nat → Bool} {r : Nat × Int} (h : ¬ r.2 = 0) : ∀ k, chn sub nxt jn k r = r
  | 0 => rfl
  | _ + 1 => if_neg (fun z => h z.1)
theorem chn_end {sub : Nat → Nat × Int} {nxt : Nat → Nat} {jn : Nat → Bool} {r : Nat × Int} (h : ¬ jn r.1 = true) : ∀ k, chn sub nxt jn k r = r
  | 0 => rfl
  | _ + 1 => if_neg (fun z => h z.2)
theorem chn_go {sub : Nat → Nat × Int} {nxt : Nat → Nat} {jn : Nat → Bool} {q : Nat} (h : jn q = true) (k : Nat) : chn sub nxt jn (k + 1) (q, 0) = chn sub nxt jn k (sub (nxt q)) := if_pos ⟨rfl, h⟩
def jnt (T : Nat → Int × Int64 × Nat) (rk p : Nat) : Bool :=
  if rk = 0 then isW T p (WN 15) || isW T p (WN 16) else if rk = 1 then isG T p 60 || isG T p 61 else if rk = 2 then isG T p 43 || isG T p 45 else isG T p 42
def mst (rk : Nat) : Nat := if rk = 1 then 1 else 1000
/-- from a PART, rank 4 - k -/
def rLv (T : Nat → Int × Int64 × Nat) (P : Nat → Nat × Int) : Nat → Nat → Nat × Int
  | 0 => P
  | k + 1 => fun p => chn (rLv T P k) (nx T) (jnt T (3 - k)) (mst (3 - k)) (rLv T P k p)
def isFct (T : Nat → Int × Int64 × Nat) (p : Nat) : Bool := isW T p (WN 17) || isW T p (WN 18) || isW T p (WN 19) || isW T p (WN 7) || isW T p (WN 20) || isW T p (WN 21) || isW T p (WN 1) || isW T p (WN 22)
def canP (T : Nat → Int × Int64 × Nat) (p : Nat) : Bool := decide ((T p).1 = 2) || isFct T p || isG T p 40 || isW T p (WN 14)
def rPt (T : Nat → Int × Int64 × Nat) : Nat → Nat → Nat × Int
  | 0 => fun p => if canP T p = true then flt 5 p else flt 1 p
  | d + 1 => fun p => if canP T p = true then (if isG T p 40 = true then bnd (rLv T (rPt T d) 4 (nx T p)) (rSign T 41) else if isW T p (WN 14) = true then rPt T d (nx T p) else (nx T p, 0)) else flt 1 p
/-- names -/
def noW (v : Int64) : Nat → Bool
  | 0 => true
  | k + 1 => noW v k && !decide (v = WN k)
theorem noW_iff {v : Int64} : ∀ n, noW v n = true ↔ ∀ k, k < n → ¬ v = WN k := by
  intro n
  induction n with
  | zero => exact ⟨fun _ k hk => absurd hk (Nat.not_lt_zero k), fun _ => rfl⟩
  | succ n ih =>
    show (noW v n && !decide (v = WN n)) = true ↔ _
    rw [Bool.and_eq_true, ih]
    constructor
    · rintro ⟨h1, h2⟩ k hk e
      rcases Nat.lt_or_ge k n with q | q
      · exact h1 k q e
      · have ek : k = n := by omega
        rw [ek] at e
        rw [decide_eq_true e] at h2; exact absurd h2 (by decide)
    · intro h
      refine ⟨fun k hk => h k (by omega), ?_⟩
      rw [decide_eq_false (h n (by omega))]; rfl
def isNm (T : Nat → Int × Int64 × Nat) (p : Nat) : Bool := decide ((T p).1 = 1) && noW (T p).2.1 17
theorem isNm_iff {T : Nat → Int × Int64 × Nat} {p : Nat} : isNm T p = true ↔ (T p).1 = 1 ∧ ∀ k, k < 17 → ¬ (T p).2.1 = WN k := by
  unfold isNm; rw [Bool.and_eq_true, decide_eq_true_iff, noW_iff]
def nmI (T : Nat → Int × Int64 × Nat) (p : Nat) : Int := if isNm T p = true then 1 else 0
def fsn (nm : Nat → Int64) (v : Int64) : Nat → Nat → Nat
  | 0, i => i
  | k + 1, i => if nm i = v then i else fsn nm v k (i + 1)
theorem fsn_spec {nm : Nat → Int64} {v : Int64} : ∀ k i, i ≤ fsn nm v k i ∧ fsn nm v k i ≤ i + k ∧ (∀ j, i ≤ j → j < fsn nm v k i → ¬ nm j = v) ∧ (fsn nm v k i < i + k → nm (fsn nm v k i) = v) := by
  intro k
  induction k with
  | zero => intro i; exact ⟨Nat.le_refl _, Nat.le_refl _, fun j h1 h2 => absurd h2 (by show ¬ j < i; omega), fun h => absurd h (by show ¬ i < i + 0; omega)⟩
  | succ k ih =>
    intro i
    by_cases q : nm i = v
    · have e : fsn nm v (k + 1) i = i := if_pos q
      rw [e]; exact ⟨Nat.le_refl _, by omega, fun j h1 h2 => absurd h2 (by omega), fun _ => q⟩
    · have e : fsn nm v (k + 1) i = fsn nm v k (i + 1) := if_neg q
      rw [e]
      obtain ⟨a, b, c, d⟩ := ih (i + 1)
      refine ⟨by omega, by omega, fun j h1 h2 => ?_, fun h => d (by omega)⟩
      rcases Nat.lt_or_ge i j with z | z
      · exact c j (by omega) h2
      · have : j = i := by omega
        rw [this]; exact q
/-- the first of c names that is v; c: none -/
def fnd (nm : Nat → Int64) (c : Nat) (v : Int64) : Nat := fsn nm v c 0
theorem fnd_le {nm : Nat → Int64} {c : Nat} {v : Int64} : fnd nm c v ≤ c := by have := (fsn_spec (nm := nm) (v := v) c 0).2.1; unfold fnd; omega
theorem fnd_eq {nm : Nat → Int64} {c k : Nat} {v : Int64} (h1 : k < c) (h2 : nm k = v) (h3 : ∀ j, j < k → ¬ nm j = v) : fnd nm c v = k := by
  obtain ⟨a, b, x, d⟩ := fsn_spec (nm := nm) (v := v) c 0
  unfold fnd
  rcases Nat.lt_trichotomy (fsn nm v c 0) k with q | q | q
  · exact absurd (d (by omega)) (h3 _ q)
  · exact q
  · exact absurd h2 (x k (by omega) q)
theorem fnd_no {nm : Nat → Int64} {c : Nat} {v : Int64} (h : ∀ j, j < c → ¬ nm j = v) : fnd nm c v = c := by
  obtain ⟨a, b, x, d⟩ := fsn_spec (nm := nm) (v := v) c 0
  unfold fnd
  rcases Nat.lt_or_ge (fsn nm v c 0) c with q | q
  · exact absurd (d (by omega)) (h _ q)
  · omega
/-- what is told so far: names of the wares, how many, names of the shelves, how many, tops, habits, how many nests -/
def rNew (T : Nat → Int × Int64 × Nat) (S : ((Nat → Int64) × Nat × (Nat → Int64) × Nat × (Nat → Bool) × (Nat → Bool) × Nat)) (p : Nat) : Nat × Int := if isNm T p = true then (if fnd S.1 S.2.1 (T p).2.1 < S.2.1 ∨ fnd S.2.2.1 S.2.2.2.1 (T p).2.1 < S.2.2.2.1 then flt 3 p else (nx T p, 0)) else flt 1 p
def rOld (T : Nat → Int × Int64 × Nat) (S : ((Nat → Int64) × Nat × (Nat → Int64) × Nat × (Nat → Bool) × (Nat → Bool) × Nat)) (a : Nat → Bool) (p : Nat) : Nat × Int := if isNm T p = true then (if fnd S.1 S.2.1 (T p).2.1 < S.2.1 then (if a (fnd S.1 S.2.1 (T p).2.1) = true then flt 3 p else (nx T p, 0)) else flt 2 p) else flt 1 p
def rBowl (T : Nat → Int × Int64 × Nat) (S : ((Nat → Int64) × Nat × (Nat → Int64) × Nat × (Nat → Bool) × (Nat → Bool) × Nat)) (p : Nat) : Nat × Int := if 12 ≤ S.2.1 then flt 5 p else bnd (bnd (bnd (bnd (bnd (rNew T S (nx T p)) (rAmt T (WN 6) 1 99)) (rAmt T (WN 7) 1 99)) (rAmt T (WN 8) 1 99)) (rAmt T (WN 9) 0 999)) (rAmt T (WN 10) 0 99)
def rLid (T : Nat → Int × Int64 × Nat) (S : ((Nat → Int64) × Nat × (Nat → Int64) × Nat × (Nat → Bool) × (Nat → Bool) × Nat)) (p : Nat) : Nat × Int := if 12 ≤ S.2.1 then flt 5 p else bnd (bnd (bnd (rNew T S (nx T p)) (rAmt T (WN 6) 1 99)) (rAmt T (WN 8) 1 99)) (rAmt T (WN 10) 0 99)
def rShelf (T : Nat → Int × Int64 × Nat) (S : ((Nat → Int64) × Nat × (Nat → Int64) × Nat × (Nat → Bool) × (Nat → Bool) × Nat)) (p : Nat) : Nat × Int := if 4 ≤ S.2.2.2.1 then flt 5 p else bnd (bnd (bnd (rNew T S (nx T p)) (rAmt T (WN 11) 1 999)) (rAmt T (WN 12) 0 99)) (rAmt T (WN 13) 1 8)
def rTop (T : Nat → Int × Int64 × Nat) (S : ((Nat → Int64) × Nat × (Nat → Int64) × Nat × (Nat → Bool) × (Nat → Bool) × Nat)) (p : Nat) : Nat × Int := rOld T S S.2.2.2.2.1 (nx T p)
def rHab (T : Nat → Int × Int64 × Nat) (S : ((Nat → Int64) × Nat × (Nat → Int64) × Nat × (Nat → Bool) × (Nat → Bool) × Nat)) (p : Nat) : Nat × Int := bnd (rOld T S S.2.2.2.2.2.1 (nx T p)) (rNum T 0 99)
def rNest (T : Nat → Int × Int64 × Nat) (S : ((Nat → Int64) × Nat × (Nat → Int64) × Nat × (Nat → Bool) × (Nat → Bool) × Nat)) (p : Nat) : Nat × Int := if 4 ≤ S.2.2.2.2.2.2 then flt 5 p else rLv T (rPt T 5) 4 (nx T p)
def rLine (T : Nat → Int × Int64 × Nat) (S : ((Nat → Int64) × Nat × (Nat → Int64) × Nat × (Nat → Bool) × (Nat → Bool) × Nat)) (p : Nat) : Nat × Int :=
  if isW T p (WN 0) = true then rBowl T S p else if isW T p (WN 1) = true then rLid T S p else if isW T p (WN 2) = true then rShelf T S p else if isW T p (WN 3) = true then rTop T S p else if isW T p (WN 4) = true then rHab T S p else if isW T p (WN 5) = true then rNest T S p else flt 1 p
def rStm (T : Nat → Int × Int64 × Nat) (S : ((Nat → Int64) × Nat × (Nat → Int64) × Nat × (Nat → Bool) × (Nat → Bool) × Nat)) (p : Nat) : Nat × Int := bnd (rLine T S p) (rSign T 59)
def updB (f : Nat → Bool) (k : Nat) : Nat → Bool := fun j => if j = k then true else f j
/-- what is told behind a statement -/
def sWare (T : Nat → Int × Int64 × Nat) (S : ((Nat → Int64) × Nat × (Nat → Int64) × Nat × (Nat → Bool) × (Nat → Bool) × Nat)) (p : Nat) : ((Nat → Int64) × Nat × (Nat → Int64) × Nat × (Nat → Bool) × (Nat → Bool) × Nat) := (vp_updL S.1 S.2.1 (T (nx T p)).2.1, S.2.1 + 1, S.2.2)
def sShelf (T : Nat → Int × Int64 × Nat) (S : ((Nat → Int64) × Nat × (Nat → Int64) × Nat × (Nat → Bool) × (Nat → Bool) × Nat)) (p : Nat) : ((Nat → Int64) × Nat × (Nat → Int64) × Nat × (Nat → Bool) × (Nat → Bool) × Nat) := (S.1, S.2.1, vp_updL S.2.2.1 S.2.2.2.1 (T (nx T p)).2.1, S.2.2.2.1 + 1, S.2.2.2.2)
def sTop (T : Nat → Int × Int64 × Nat) (S : ((Nat → Int64) × Nat × (Nat → Int64) × Nat × (Nat → Bool) × (Nat → Bool) × Nat)) (p : Nat) : ((Nat → Int64) × Nat × (Nat → Int64) × Nat × (Nat → Bool) × (Nat → Bool) × Nat) := (S.1, S.2.1, S.2.2.1, S.2.2.2.1, updB S.2.2.2.2.1 (fnd S.1 S.2.1 (T (nx T p)).2.1), S.2.2.2.2.2)
def sHab (T : Nat → Int × Int64 × Nat) (S : ((Nat → Int64) × Nat × (Nat → Int64) × Nat × (Nat → Bool) × (Nat → Bool) × Nat)) (p : Nat) : ((Nat → Int64) × Nat × (Nat → Int64) × Nat × (Nat → Bool) × (Nat → Bool) × Nat) := (S.1, S.2.1, S.2.2.1, S.2.2.2.1, S.2.2.2.2.1, updB S.2.2.2.2.2.1 (fnd S.1 S.2.1 (T (nx T p)).2.1), S.2.2.2.2.2.2)
def sNest (S : ((Nat → Int64) × Nat × (Nat → Int64) × Nat × (Nat → Bool) × (Nat → Bool) × Nat)) : ((Nat → Int64) × Nat × (Nat → Int64) × Nat × (Nat → Bool) × (Nat → Bool) × Nat) := (S.1, S.2.1, S.2.2.1, S.2.2.2.1, S.2.2.2.2.1, S.2.2.2.2.2.1, S.2.2.2.2.2.2 + 1)
def sLine (T : Nat → Int × Int64 × Nat) (S : ((Nat → Int64) × Nat × (Nat → Int64) × Nat × (Nat → Bool) × (Nat → Bool) × Nat)) (p : Nat) : ((Nat → Int64) × Nat × (Nat → Int64) × Nat × (Nat → Bool) × (Nat → Bool) × Nat) :=
  if isW T p (WN 0) = true then sWare T S p else if isW T p (WN 1) = true then sWare T S p else if isW T p (WN 2) = true then sShelf T S p else if isW T p (WN 3) = true then sTop T S p else if isW T p (WN 4) = true then sHab T S p else sNest S
/-- the FAULT of all -/
def rAll (T : Nat → Int × Int64 × Nat) : Nat → ((Nat → Int64) × Nat × (Nat → Int64) × Nat × (Nat → Bool) × (Nat → Bool) × Nat) → Nat → Int
  | 0, _, _ => 0
  | k + 1, S, p => if (T p).1 = 0 then 0 else if (rStm T S p).2 = 0 then rAll T k (sLine T S p) (rStm T S p).1 else (rStm T S p).2
def S0 : ((Nat → Int64) × Nat × (Nat → Int64) × Nat × (Nat → Bool) × (Nat → Bool) × Nat) := (fun _ => 0, 0, fun _ => 0, 0, fun _ => false, fun _ => false, 0)
def cup (f : Nat → Int32) (n : Nat) : Int := rAll (TKS f n) 1000 S0 (tP f n 0)
theorem cup_cong {f g : Nat → Int32} {n : Nat} (hg : ∀ j : Nat, j < n → g j = f j) : cup g n = cup f n := by unfold cup; rw [TKS_cong hg, tP_cong hg]
theorem rAll_end {T : Nat → Int × Int64 × Nat} {S : ((Nat → Int64) × Nat × (Nat → Int64) × Nat × (Nat → Bool) × (Nat → Bool) × Nat)} {p : Nat} (h : (T p).1 = 0) : ∀ k, rAll T k S p = 0
  | 0 => rfl
  | _ + 1 => if_pos h
theorem rAll_ok {T : Nat → Int × Int64 × Nat} {S : ((Nat → Int64) × Nat × (Nat → Int64) × Nat × (Nat → Bool) × (Nat → Bool) × Nat)} {p q : Nat} {k : Nat} (h : ¬ (T p).1 = 0) (h2 : rStm T S p = (q, 0)) : rAll T (k + 1) S p = rAll T k (sLine T S p) q := by
  show (if (T p).1 = 0 then 0 else if (rStm T S p).2 = 0 then rAll T k (sLine T S p) (rStm T S p).1 else (rStm T S p).2) = _
  rw [if_neg h, h2]; exact if_pos rfl
theorem rAll_bad {T : Nat → Int × Int64 × Nat} {S : ((Nat → Int64) × Nat × (Nat → Int64) × Nat × (Nat → Bool) × (Nat → Bool) × Nat)} {p : Nat} {k : Nat} (h : ¬ (T p).1 = 0) (h2 : ¬ (rStm T S p).2 = 0) : rAll T (k + 1) S p = (rStm T S p).2 := by
  show (if (T p).1 = 0 then 0 else if (rStm T S p).2 = 0 then rAll T k (sLine T S p) (rStm T S p).1 else (rStm T S p).2) = _
  rw [if_neg h, if_neg h2]

theorem flt_ne {k : Int} {p : Nat} (h : 1 ≤ k) : ¬ (flt k p).2 = 0 := by show ¬ k + 16 * (p : Int) = 0; omega
theorem isW_gt {T : Nat → Int × Int64 × Nat} (hT : PT T) {p : Nat} {w : Int64} (h : isW T p w = true) : p < 1000 ∧ p < nx T p := hT p (by rw [(of_decide_eq_true h).1]; decide)
theorem isG_gt {T : Nat → Int × Int64 × Nat} (hT : PT T) {p : Nat} {c : Int32} (h : isG T p c = true) : p < 1000 ∧ p < nx T p := hT p (by rw [(of_decide_eq_true h).1]; decide)
theorem isNm_gt {T : Nat → Int × Int64 × Nat} (hT : PT T) {p : Nat} (h : isNm T p = true) : p < 1000 ∧ p < nx T p := hT p (by rw [(isNm_iff.mp h).1]; decide)
theorem jnt_gt {T : Nat → Int × Int64 × Nat} (hT : PT T) {rk p : Nat} (h : jnt T rk p = true) : p < 1000 ∧ p < nx T p := by
  unfold jnt at h
  by_cases q0 : rk = 0
  · rw [if_pos q0, Bool.or_eq_true] at h
    exact h.elim (isW_gt hT) (isW_gt hT)
  · rw [if_neg q0] at h
    by_cases q1 : rk = 1
    · rw [if_pos q1, Bool.or_eq_true] at h
      exact h.elim (isG_gt hT) (isG_gt hT)
    · rw [if_neg q1] at h
      by_cases q2 : rk = 2
      · rw [if_pos q2, Bool.or_eq_true] at h
        exact h.elim (isG_gt hT) (isG_gt hT)
      · rw [if_neg q2] at h
        exact isG_gt hT h
theorem canP_gt {T : Nat → Int × Int64 × Nat} (hT : PT T) {p : Nat} (h : canP T p = true) : p < 1000 ∧ p < nx T p := by
  unfold canP isFct at h
  simp only [Bool.or_eq_true] at h
  rcases h with ((h | h) | h) | h
  · exact hT p (by rw [of_decide_eq_true h]; decide)
  · rcases h with ((((((h | h) | h) | h) | h) | h) | h) | h <;> exact isW_gt hT h
  · exact isG_gt hT h
  · exact isW_gt hT h
theorem chn_ok {sub : Nat → Nat × Int} {nxt : Nat → Nat} {jn : Nat → Bool} {k : Nat} {r : Nat × Int} (h : (chn sub nxt jn k r).2 = 0) : r.2 = 0 := by
  by_cases q : r.2 = 0
  · exact q
  · rw [chn_bad q] at h; exact absurd h q
theorem chn_gt {sub : Nat → Nat × Int} {nxt : Nat → Nat} {jn : Nat → Bool} (hs : ∀ q, (sub q).2 = 0 → q < (sub q).1) (hn : ∀ q, jn q = true → q < nxt q) : ∀ k r, (chn sub nxt jn k r).2 = 0 → r.1 ≤ (chn sub nxt jn k r).1 := by
  intro k
  induction k with
  | zero => intro r _; exact Nat.le_refl _
  | succ k ih =>
    intro r h
    by_cases q : r.2 = 0 ∧ jn r.1 = true
    · have e : chn sub nxt jn (k + 1) r = chn sub nxt jn k (sub (nxt r.1)) := if_pos q
      rw [e] at h ⊢
      have a := ih _ h
      have b := hs _ (chn_ok h)
      have c := hn _ q.2
      omega
    · have e : chn sub nxt jn (k + 1) r = r := if_neg q
      rw [e]; exact Nat.le_refl _
theorem rLv_gt {T : Nat → Int × Int64 × Nat} (hT : PT T) {P : Nat → Nat × Int} (hP : ∀ q, (P q).2 = 0 → q < (P q).1) : ∀ k p, (rLv T P k p).2 = 0 → p < (rLv T P k p).1 := by
  intro k
  induction k with
  | zero => exact hP
  | succ k ih =>
    intro p h
    have h' : (chn (rLv T P k) (nx T) (jnt T (3 - k)) (mst (3 - k)) (rLv T P k p)).2 = 0 := h
    show p < (chn (rLv T P k) (nx T) (jnt T (3 - k)) (mst (3 - k)) (rLv T P k p)).1
    have a := ih p (chn_ok h')
    have b := chn_gt (jn := jnt T (3 - k)) ih (fun q z => (jnt_gt hT z).2) _ _ h'
    omega
theorem bnd_gt {r : Nat × Int} {g : Nat → Nat × Int} {p : Nat} (h1 : r.2 = 0 → p < r.1) (h2 : ∀ q, (g q).2 = 0 → q < (g q).1) (h : (bnd r g).2 = 0) : p < (bnd r g).1 := by
  unfold bnd at h ⊢
  by_cases q : r.2 = 0
  · rw [if_pos q] at h ⊢
    have a := h1 q
    have b := h2 _ h
    omega
  · rw [if_neg q] at h; exact absurd h q
theorem rSign_gt {T : Nat → Int × Int64 × Nat} (hT : PT T) {c : Int32} (p : Nat) (h : (rSign T c p).2 = 0) : p < (rSign T c p).1 := by
  unfold rSign at h ⊢
  by_cases q : isG T p c = true
  · rw [if_pos q]; exact (isG_gt hT q).2
  · rw [if_neg q] at h; exact absurd h (flt_ne (by decide))
theorem rPt_gt {T : Nat → Int × Int64 × Nat} (hT : PT T) : ∀ d p, (rPt T d p).2 = 0 → p < (rPt T d p).1 := by
  intro d
  induction d with
  | zero =>
    intro p h
    have h' : (if canP T p = true then flt 5 p else flt 1 p).2 = 0 := h
    by_cases q : canP T p = true
    · rw [if_pos q] at h'; exact absurd h' (flt_ne (by decide))
    · rw [if_neg q] at h'; exact absurd h' (flt_ne (by decide))
  | succ d ih =>
    intro p h
    have e : rPt T (d + 1) p = (if canP T p = true then (if isG T p 40 = true then bnd (rLv T (rPt T d) 4 (nx T p)) (rSign T 41) else if isW T p (WN 14) = true then rPt T d (nx T p) else (nx T p, 0)) else flt 1 p) := rfl
    rw [e] at h ⊢
    by_cases q : canP T p = true
    · rw [if_pos q] at h ⊢
      have g := (canP_gt hT q).2
      by_cases q1 : isG T p 40 = true
      · rw [if_pos q1] at h ⊢
        exact bnd_gt (fun z => by have := rLv_gt hT ih 4 _ z; omega) (rSign_gt hT) h
      · rw [if_neg q1] at h ⊢
        by_cases q2 : isW T p (WN 14) = true
        · rw [if_pos q2] at h ⊢
          have := ih _ h; omega
        · rw [if_neg q2]; exact g
    · rw [if_neg q] at h; exact absurd h (flt_ne (by decide))
theorem rNum_gt {T : Nat → Int × Int64 × Nat} (hT : PT T) {lo hi : Int} (p : Nat) (h : (rNum T lo hi p).2 = 0) : p < (rNum T lo hi p).1 := by
  unfold rNum at h ⊢
  by_cases q : (T p).1 = 2
  · rw [if_pos q] at h ⊢
    by_cases q1 : lo ≤ (T p).2.1.toInt ∧ (T p).2.1.toInt ≤ hi
    · rw [if_pos q1]; exact (hT p (by rw [q]; decide)).2
    · rw [if_neg q1] at h; exact absurd h (flt_ne (by decide))
  · rw [if_neg q] at h; exact absurd h (flt_ne (by decide))
theorem rAmt_gt {T : Nat → Int × Int64 × Nat} (hT : PT T) {w : Int64} {lo hi : Int} (p : Nat) (h : (rAmt T w lo hi p).2 = 0) : p < (rAmt T w lo hi p).1 := by
  unfold rAmt at h ⊢
  by_cases q : isW T p w = true
  · rw [if_pos q] at h ⊢
    have a := rNum_gt hT _ h
    have b := (isW_gt hT q).2
    omega
  · rw [if_neg q] at h; exact absurd h (flt_ne (by decide))
theorem rNew_gt {T : Nat → Int × Int64 × Nat} (hT : PT T) {S : ((Nat → Int64) × Nat × (Nat → Int64) × Nat × (Nat → Bool) × (Nat → Bool) × Nat)} (p : Nat) (h : (rNew T S p).2 = 0) : p < (rNew T S p).1 := by
  unfold rNew at h ⊢
  by_cases q : isNm T p = true
  · rw [if_pos q] at h ⊢
    by_cases q1 : fnd S.1 S.2.1 (T p).2.1 < S.2.1 ∨ fnd S.2.2.1 S.2.2.2.1 (T p).2.1 < S.2.2.2.1
    · rw [if_pos q1] at h; exact absurd h (flt_ne (by decide))
    · rw [if_neg q1]; exact (isNm_gt hT q).2
  · rw [if_neg q] at h; exact absurd h (flt_ne (by decide))
theorem rOld_gt {T : Nat → Int × Int64 × Nat} (hT : PT T) {S : ((Nat → Int64) × Nat × (Nat → Int64) × Nat × (Nat → Bool) × (Nat → Bool) × Nat)} {a : Nat → Bool} (p : Nat) (h : (rOld T S a p).2 = 0) : p < (rOld T S a p).1 := by
  unfold rOld at h ⊢
  by_cases q : isNm T p = true
  · rw [if_pos q] at h ⊢
    by_cases q1 : fnd S.1 S.2.1 (T p).2.1 < S.2.1
    · rw [if_pos q1] at h ⊢
      by_cases q2 : a (fnd S.1 S.2.1 (T p).2.1) = true
      · rw [if_pos q2] at h; exact absurd h (flt_ne (by decide))
      · rw [if_neg q2]; exact (isNm_gt hT q).2
    · rw [if_neg q1] at h; exact absurd h (flt_ne (by decide))
  · rw [if_neg q] at h; exact absurd h (flt_ne (by decide))
theorem rLine_gt {T : Nat → Int × Int64 × Nat} (hT : PT T) {S : ((Nat → Int64) × Nat × (Nat → Int64) × Nat × (Nat → Bool) × (Nat → Bool) × Nat)} (p : Nat) (h : (rLine T S p).2 = 0) : p < (rLine T S p).1 := by
  unfold rLine at h ⊢
  by_cases q0 : isW T p (WN 0) = true
  · rw [if_pos q0] at h ⊢
    have g := (isW_gt hT q0).2
    unfold rBowl at h ⊢
    by_cases q : 12 ≤ S.2.1
    · rw [if_pos q] at h; exact absurd h (flt_ne (by decide))
    · rw [if_neg q] at h ⊢
      exact bnd_gt (bnd_gt (bnd_gt (bnd_gt (bnd_gt (fun z => by have := rNew_gt hT _ z; omega) (rAmt_gt hT)) (rAmt_gt hT)) (rAmt_gt hT)) (rAmt_gt hT)) (rAmt_gt hT) h
  · rw [if_neg q0] at h ⊢
    by_cases q1 : isW T p (WN 1) = true
    · rw [if_pos q1] at h ⊢
      have g := (isW_gt hT q1).2
      unfold rLid at h ⊢
      by_cases q : 12 ≤ S.2.1
      · rw [if_pos q] at h; exact absurd h (flt_ne (by decide))
      · rw [if_neg q] at h ⊢
        exact bnd_gt (bnd_gt (bnd_gt (fun z => by have := rNew_gt hT _ z; omega) (rAmt_gt hT)) (rAmt_gt hT)) (rAmt_gt hT) h
    · rw [if_neg q1] at h ⊢
      by_cases q2 : isW T p (WN 2) = true
      · rw [if_pos q2] at h ⊢
        have g := (isW_gt hT q2).2
        unfold rShelf at h ⊢
        by_cases q : 4 ≤ S.2.2.2.1
        · rw [if_pos q] at h; exact absurd h (flt_ne (by decide))
        · rw [if_neg q] at h ⊢
          exact bnd_gt (bnd_gt (bnd_gt (fun z => by have := rNew_gt hT _ z; omega) (rAmt_gt hT)) (rAmt_gt hT)) (rAmt_gt hT) h
      · rw [if_neg q2] at h ⊢
        by_cases q3 : isW T p (WN 3) = true
        · rw [if_pos q3] at h ⊢
          have g := (isW_gt hT q3).2
          have := rOld_gt hT _ h
          show p < (rOld T S S.2.2.2.2.1 (nx T p)).1
          omega
        · rw [if_neg q3] at h ⊢
          by_cases q4 : isW T p (WN 4) = true
          · rw [if_pos q4] at h ⊢
            have g := (isW_gt hT q4).2
            exact bnd_gt (fun z => by have := rOld_gt hT _ z; omega) (rNum_gt hT) h
          · rw [if_neg q4] at h ⊢
            by_cases q5 : isW T p (WN 5) = true
            · rw [if_pos q5] at h ⊢
              have g := (isW_gt hT q5).2
              unfold rNest at h ⊢
              by_cases q : 4 ≤ S.2.2.2.2.2.2
              · rw [if_pos q] at h; exact absurd h (flt_ne (by decide))
              · rw [if_neg q] at h ⊢
                have := rLv_gt hT (rPt_gt hT 5) 4 _ h
                omega
            · rw [if_neg q5] at h; exact absurd h (flt_ne (by decide))
theorem rStm_gt {T : Nat → Int × Int64 × Nat} (hT : PT T) {S : ((Nat → Int64) × Nat × (Nat → Int64) × Nat × (Nat → Bool) × (Nat → Bool) × Nat)} (p : Nat) (h : (rStm T S p).2 = 0) : p < (rStm T S p).1 := bnd_gt (rLine_gt hT p) (rSign_gt hT) h

/-- the literal as a word; a stretch of the text is the literal -/
def wnL (i : Nat) : Int64 := e37 (sB i) 0 (sL i)
def WD (f : Nat → Int32) (p e i : Nat) : Prop := e = p + sL i ∧ ∀ j : Nat, j < sL i → (f (p + j)).toInt = (sB i j).toInt
def wLit (i : Nat) : Prop := 2 ≤ i ∧ ¬ i = 25 ∧ i < 43
theorem lit_LT8_all : ∀ i, i < 43 → (i < 2 ∨ i = 25 ∨ sL i ≤ 8 ∧ ∀ j, j < 8 → (sL i ≤ j ∨ 97 ≤ (sB i j).toInt ∧ (sB i j).toInt ≤ 122)) := by decide +kernel
theorem lit_LT8 {i : Nat} (h : wLit i) : LT8 (sB i) 0 (sL i) := by
  have a : sL i ≤ 8 ∧ ∀ j, j < 8 → (sL i ≤ j ∨ 97 ≤ (sB i j).toInt ∧ (sB i j).toInt ≤ 122) := by
    rcases lit_LT8_all i h.2.2 with q | q | q
    · exact absurd h.1 (by omega)
    · exact absurd q h.2.1
    · exact q
  refine ⟨a.1, fun j hj => ?_⟩
  rw [Nat.zero_add]
  rcases a.2 j (by omega) with q | q
  · omega
  · exact q
theorem WD_iff {f : Nat → Int32} {p e i : Nat} (hp : p ≤ e) (hl : LT8 f p (e - p)) (hi : wLit i) : WD f p e i ↔ e37 f p (e - p) = wnL i := by
  have h2 := lit_LT8 hi
  refine Iff.trans ?_ (e37_same hl h2).symm
  constructor
  · rintro ⟨h3, h4⟩
    refine ⟨by omega, fun j hj => ?_⟩
    have := h4 j (by omega)
    unfold dgt; rw [Nat.zero_add, this]
  · rintro ⟨h3, h4⟩
    refine ⟨by omega, fun j hj => ?_⟩
    have a := h4 j (by omega)
    have b := hl.2 j (by omega)
    have c := h2.2 j hj
    unfold dgt at a; rw [Nat.zero_add] at a c; omega
/-- the class's tape has the token of its place at hand -/
def TH (f : Nat → Int32) (n : Nat) (ne kd pl nu : Int) : Prop := tP f n pl.toNat = pl.toNat ∧ ne = ((tE f n pl.toNat : Nat) : Int) ∧ kd = tK f n pl.toNat ∧ (kd = 2 → nu = nV f pl.toNat (tE f n pl.toNat - pl.toNat) ∧ 0 ≤ nu ∧ nu ≤ 9999)
theorem TH.mk' {f : Nat → Int32} {n i : Nat} {ne kd pl nu : Int} (h1 : pl.toNat = tP f n i) (h2 : ne = ((tE f n i : Nat) : Int)) (h3 : kd = tK f n i) (h4 : kd = 2 → nu = nV f (tP f n i) (tE f n i - tP f n i)) : TH f n ne kd pl nu := by
  refine ⟨by rw [h1, tPP], by rw [h1, tE_P]; exact h2, by rw [h1, tK_P]; exact h3, fun q => ?_⟩
  rw [h1, tE_P]
  have a := h4 q
  have b := tK_dig (h3.symm.trans q)
  have c := e10_nV _ b.1 b.2
  have d : 10 ^ (tE f n i - tP f n i) ≤ 10 ^ 4 := Nat.pow_le_pow_right (by decide) b.1
  have e : (10 : Nat) ^ 4 = 10000 := by decide
  exact ⟨a, by omega, by omega⟩
theorem TH.kind {f : Nat → Int32} {n : Nat} {ne kd pl nu : Int} (h : TH f n ne kd pl nu) : (TKS f n pl.toNat).1 = kd := h.2.2.1.symm
theorem TH.adv {f : Nat → Int32} {n : Nat} {ne kd pl nu : Int} (h : TH f n ne kd pl nu) : tP f n ne.toNat = nx (TKS f n) pl.toNat := by
  show _ = tP f n (tE f n pl.toNat)
  rw [h.2.1, Int.toNat_natCast]
theorem TH.num {f : Nat → Int32} {n : Nat} {ne kd pl nu : Int} (h : TH f n ne kd pl nu) (hk : kd = 2) : (TKS f n pl.toNat).2.1.toInt = nu := by
  have k2 : tK f n pl.toNat = 2 := h.2.2.1.symm.trans hk
  have b := tK_dig k2
  show (tV0 f n pl.toNat).toInt = nu
  unfold tV0 tV
  rw [k2, if_pos (Or.inr (Or.inl rfl)), if_neg (by decide), if_pos rfl, (e10_nV _ b.1 b.2).1, h.1]
  exact (h.2.2.2 hk).1.symm
theorem TH.wval {f : Nat → Int32} {n : Nat} {ne kd pl nu : Int} (h : TH f n ne kd pl nu) (hk : kd = 1) : (TKS f n pl.toNat).2.1 = e37 f pl.toNat (ne.toNat - pl.toNat) ∧ LT8 f pl.toNat (ne.toNat - pl.toNat) ∧ pl.toNat ≤ ne.toNat := by
  have k1 : tK f n pl.toNat = 1 := h.2.2.1.symm.trans hk
  have b := tK_LT8 k1
  have c := tK_1 k1
  have e : ne.toNat = tE f n pl.toNat := by rw [h.2.1, Int.toNat_natCast]
  rw [h.1] at b c
  rw [e]
  refine ⟨?_, b, by omega⟩
  show tV0 f n pl.toNat = _
  unfold tV0 tV
  rw [k1, if_pos (Or.inl rfl), if_pos rfl, h.1]
theorem TH.word {f : Nat → Int32} {n : Nat} {ne kd pl nu : Int} (h : TH f n ne kd pl nu) {i : Nat} (hi : wLit i) : (kd = 1 ∧ WD f pl.toNat ne.toNat i) ↔ isW (TKS f n) pl.toNat (wnL i) = true := by
  unfold isW
  rw [decide_eq_true_iff, h.kind]
  constructor
  · rintro ⟨h1, h2⟩
    obtain ⟨a, b, c⟩ := h.wval h1
    exact ⟨h1, a.trans ((WD_iff c b hi).mp h2)⟩
  · rintro ⟨h1, h2⟩
    obtain ⟨a, b, c⟩ := h.wval h1
    exact ⟨h1, (WD_iff c b hi).mpr (a.symm.trans h2)⟩
theorem i64_inj {a b : Int32} : a.toInt64 = b.toInt64 ↔ a = b := by
  constructor
  · intro h
    have := congrArg Int64.toInt h
    rw [Int32.toInt_toInt64, Int32.toInt_toInt64] at this
    exact (i_eq _ _).mpr this
  · intro h; rw [h]
theorem TH.sign {f : Nat → Int32} {n : Nat} {ne kd pl nu : Int} (h : TH f n ne kd pl nu) {c : Int32} : (kd = 3 ∧ f pl.toNat = c) ↔ isG (TKS f n) pl.toNat c = true := by
  unfold isG
  rw [decide_eq_true_iff, h.kind]
  have e : kd = 3 → (TKS f n pl.toNat).2.1 = (f pl.toNat).toInt64 := fun hk => by
    have k3 : tK f n pl.toNat = 3 := h.2.2.1.symm.trans hk
    show tV0 f n pl.toNat = _
    unfold tV0 tV
    rw [k3, if_pos (Or.inr (Or.inr rfl)), if_neg (by decide), if_neg (by decide), h.1]
  constructor
  · rintro ⟨h1, h2⟩; exact ⟨h1, by rw [e h1, h2]⟩
  · rintro ⟨h1, h2⟩; exact ⟨h1, i64_inj.mp ((e h1).symm.trans h2)⟩
theorem TH.name {f : Nat → Int32} {n : Nat} {ne kd pl nu : Int} (h : TH f n ne kd pl nu) (hk : kd = 1) : NMR (e32 f pl.toNat (ne.toNat - pl.toNat)) (TKS f n pl.toNat).2.1 := by
  obtain ⟨a, b, c⟩ := h.wval hk
  exact ⟨f, pl.toNat, ne.toNat - pl.toNat, b, rfl, a⟩
/-- what a method of the class's reader answers, and the pure one -/
def CP (ret pl fa fa0 : Int) (r : Nat × Int) : Prop := (ret = 1 → r = (pl.toNat, 0) ∧ fa = fa0) ∧ (ret = 0 → r.2 = fa ∧ ¬ r.2 = 0)
theorem CP.wr {ret pl fa fa0 k : Int} (hr : ret = 0) (h : fa = k + 16 * pl) (h0 : 0 ≤ pl) (hk : 1 ≤ k) : CP ret pl fa fa0 (flt k pl.toNat) := ⟨fun z => absurd (hr.symm.trans z) (by decide), fun _ => ⟨by show k + 16 * ((pl.toNat : Nat) : Int) = fa; omega, flt_ne hk⟩⟩
theorem CP.ok {ret pl fa fa0 : Int} {r : Nat × Int} (hr : ret = 1) (hf : fa = fa0) (h : r = (pl.toNat, 0)) : CP ret pl fa fa0 r := ⟨fun _ => ⟨h, hf⟩, fun z => absurd (hr.symm.trans z) (by decide)⟩
theorem CP.bad {ret pl fa fa0 : Int} {r : Nat × Int} (hr : ret = 0) (h : r.2 = fa ∧ ¬ r.2 = 0) : CP ret pl fa fa0 r := ⟨fun z => absurd (hr.symm.trans z) (by decide), fun _ => h⟩
theorem CP.mv {ret pl fa fa0 : Int} {r r' : Nat × Int} (h : CP ret pl fa fa0 r) (e : r' = r) : CP ret pl fa fa0 r' := e ▸ h
/-- a chain under way: k joints may still come -/
def CH (T : Nat → Int × Int64 × Nat) (sub : Nat → Nat × Int) (jn : Nat → Bool) (k : Nat) (ret pl fa fa0 : Int) (R : Nat × Int) : Prop := (ret = 1 → chn sub (nx T) jn k (pl.toNat, 0) = R ∧ fa = fa0) ∧ (ret = 0 → R.2 = fa ∧ ¬ R.2 = 0)
theorem CH.start {T : Nat → Int × Int64 × Nat} {sub : Nat → Nat × Int} {jn : Nat → Bool} {k : Nat} {ret pl fa fa0 : Int} {r : Nat × Int} (h : CP ret pl fa fa0 r) : CH T sub jn k ret pl fa fa0 (chn sub (nx T) jn k r) := ⟨fun z => ⟨by rw [(h.1 z).1], (h.1 z).2⟩, fun z => by rw [chn_bad (h.2 z).2]; exact h.2 z⟩
theorem CH.step {T : Nat → Int × Int64 × Nat} {sub : Nat → Nat × Int} {jn : Nat → Bool} {k : Nat} {ret pl fa fa0 ret' pl' fa' : Int} {R : Nat × Int} {q : Nat} (h : CH T sub jn (k + 1) ret pl fa fa0 R) (h1 : ret = 1) (hj : jn pl.toNat = true) (hq : q = nx T pl.toNat) (h2 : CP ret' pl' fa' fa (sub q)) : CH T sub jn k ret' pl' fa' fa0 R := by
  have e := (h.1 h1).1
  rw [chn_go hj, ← hq] at e
  rw [← e, ← (h.1 h1).2]; exact CH.start h2
theorem CH.stop {T : Nat → Int × Int64 × Nat} {sub : Nat → Nat × Int} {jn : Nat → Bool} {k : Nat} {ret pl fa fa0 : Int} {R : Nat × Int} (h : CH T sub jn k ret pl fa fa0 R) (hj : ret = 1 → k = 0 ∨ ¬ jn pl.toNat = true) : CP ret pl fa fa0 R := ⟨fun z => by
  have e := (h.1 z).1
  refine ⟨?_, (h.1 z).2⟩
  rcases hj z with q | q
  · rw [q] at e; exact e.symm
  · rw [chn_end (r := (pl.toNat, 0)) q] at e; exact e.symm, h.2⟩
theorem rLv1 {T : Nat → Int × Int64 × Nat} {P : Nat → Nat × Int} {p : Nat} : rLv T P 1 p = chn (rLv T P 0) (nx T) (jnt T 3) 1000 (rLv T P 0 p) := rfl
theorem rLv2 {T : Nat → Int × Int64 × Nat} {P : Nat → Nat × Int} {p : Nat} : rLv T P 2 p = chn (rLv T P 1) (nx T) (jnt T 2) 1000 (rLv T P 1 p) := rfl
theorem rLv3 {T : Nat → Int × Int64 × Nat} {P : Nat → Nat × Int} {p : Nat} : rLv T P 3 p = chn (rLv T P 2) (nx T) (jnt T 1) 1 (rLv T P 2 p) := rfl
theorem rLv4 {T : Nat → Int × Int64 × Nat} {P : Nat → Nat × Int} {p : Nat} : rLv T P 4 p = chn (rLv T P 3) (nx T) (jnt T 0) 1000 (rLv T P 3 p) := rfl
theorem rLv0 {T : Nat → Int × Int64 × Nat} {P : Nat → Nat × Int} {p : Nat} : rLv T P 0 p = P p := rfl
theorem rPt_s {T : Nat → Int × Int64 × Nat} {d p : Nat} : rPt T (d + 1) p = (if canP T p = true then (if isG T p 40 = true then bnd (rLv T (rPt T d) 4 (nx T p)) (rSign T 41) else if isW T p (WN 14) = true then rPt T d (nx T p) else (nx T p, 0)) else flt 1 p) := rfl
theorem rPt_0 {T : Nat → Int × Int64 × Nat} {p : Nat} : rPt T 0 p = (if canP T p = true then flt 5 p else flt 1 p) := rfl
theorem isFct_iff {T : Nat → Int × Int64 × Nat} {p : Nat} : isFct T p = true ↔ (wI T p (WN 17) = 1 ∨ wI T p (WN 18) = 1 ∨ wI T p (WN 19) = 1 ∨ wI T p (WN 7) = 1 ∨ wI T p (WN 20) = 1 ∨ wI T p (WN 21) = 1 ∨ wI T p (WN 1) = 1 ∨ wI T p (WN 22) = 1) := by
  unfold isFct
  simp only [Bool.or_eq_true, wI_1, or_assoc]
theorem canP_iff {T : Nat → Int × Int64 × Nat} {p : Nat} : canP T p = true ↔ ((T p).1 = 2 ∨ isFct T p = true ∨ gI T p 40 = 1 ∨ wI T p (WN 14) = 1) := by
  unfold canP
  simp only [Bool.or_eq_true, decide_eq_true_eq, wI_1, gI_1, or_assoc]
theorem jnt0 {T : Nat → Int × Int64 × Nat} {p : Nat} : jnt T 0 p = true ↔ (wI T p (WN 15) = 1 ∨ wI T p (WN 16) = 1) := by
  unfold jnt; rw [if_pos rfl]; simp only [Bool.or_eq_true, wI_1]
theorem jnt1 {T : Nat → Int × Int64 × Nat} {p : Nat} : jnt T 1 p = true ↔ (gI T p 60 = 1 ∨ gI T p 61 = 1) := by
  unfold jnt; rw [if_neg (by decide), if_pos rfl]; simp only [Bool.or_eq_true, gI_1]
theorem jnt2 {T : Nat → Int × Int64 × Nat} {p : Nat} : jnt T 2 p = true ↔ (gI T p 43 = 1 ∨ gI T p 45 = 1) := by
  unfold jnt; rw [if_neg (by decide), if_neg (by decide), if_pos rfl]; simp only [Bool.or_eq_true, gI_1]
theorem jnt3 {T : Nat → Int × Int64 × Nat} {p : Nat} : jnt T 3 p = true ↔ gI T p 42 = 1 := by
  unfold jnt; rw [if_neg (by decide), if_neg (by decide), if_neg (by decide)]; exact gI_1.symm
theorem nmI_1 {T : Nat → Int × Int64 × Nat} {p : Nat} : nmI T p = 1 ↔ isNm T p = true := by
  unfold nmI; constructor
  · intro h; by_cases q : isNm T p = true
    · exact q
    · rw [if_neg q] at h; exact absurd h (by decide)
  · intro h; rw [if_pos h]
theorem nmI_0 {T : Nat → Int × Int64 × Nat} {p : Nat} : nmI T p = 0 ↔ ¬ isNm T p = true := by
  unfold nmI; constructor
  · intro h q; rw [if_pos q] at h; exact absurd h (by decide)
  · intro h; rw [if_neg h]
theorem nm_1 {T : Nat → Int × Int64 × Nat} {p : Nat} (hk : (T p).1 = 1) (h : wI T p (WN 0) = 0 ∧ wI T p (WN 1) = 0 ∧ wI T p (WN 2) = 0 ∧ wI T p (WN 3) = 0 ∧ wI T p (WN 4) = 0 ∧ wI T p (WN 5) = 0 ∧ wI T p (WN 6) = 0 ∧ wI T p (WN 7) = 0 ∧ wI T p (WN 8) = 0 ∧ wI T p (WN 9) = 0 ∧ wI T p (WN 10) = 0 ∧ wI T p (WN 11) = 0 ∧ wI T p (WN 12) = 0 ∧ wI T p (WN 13) = 0 ∧ wI T p (WN 14) = 0 ∧ wI T p (WN 15) = 0 ∧ wI T p (WN 16) = 0) : nmI T p = 1 := nmI_1.mpr (isNm_iff.mpr ⟨hk, fun k hk2 e => by
  have h2 : wI T p (WN k) = 1 := wI_1.mpr (decide_eq_true ⟨hk, e⟩)
  have h3 : k = 0 ∨ k = 1 ∨ k = 2 ∨ k = 3 ∨ k = 4 ∨ k = 5 ∨ k = 6 ∨ k = 7 ∨ k = 8 ∨ k = 9 ∨ k = 10 ∨ k = 11 ∨ k = 12 ∨ k = 13 ∨ k = 14 ∨ k = 15 ∨ k = 16 := by omega
  rcases h3 with rfl | rfl | rfl | rfl | rfl | rfl | rfl | rfl | rfl | rfl | rfl | rfl | rfl | rfl | rfl | rfl | rfl <;> omega⟩)
theorem nm_w {T : Nat → Int × Int64 × Nat} {p k : Nat} (hk : k < 17) (h : wI T p (WN k) = 1) : nmI T p = 0 := nmI_0.mpr (fun q => (isNm_iff.mp q).2 k hk (of_decide_eq_true (wI_1.mp h)).2)
theorem nm_0 {T : Nat → Int × Int64 × Nat} {p : Nat} (h : ¬ (T p).1 = 1 ∨ wI T p (WN 0) = 1 ∨ wI T p (WN 1) = 1 ∨ wI T p (WN 2) = 1 ∨ wI T p (WN 3) = 1 ∨ wI T p (WN 4) = 1 ∨ wI T p (WN 5) = 1 ∨ wI T p (WN 6) = 1 ∨ wI T p (WN 7) = 1 ∨ wI T p (WN 8) = 1 ∨ wI T p (WN 9) = 1 ∨ wI T p (WN 10) = 1 ∨ wI T p (WN 11) = 1 ∨ wI T p (WN 12) = 1 ∨ wI T p (WN 13) = 1 ∨ wI T p (WN 14) = 1 ∨ wI T p (WN 15) = 1 ∨ wI T p (WN 16) = 1) : nmI T p = 0 := by
  rcases h with h | h | h | h | h | h | h | h | h | h | h | h | h | h | h | h | h | h
  · exact nmI_0.mpr (fun q => h (isNm_iff.mp q).1)
  · exact nm_w (k := 0) (by decide) h
  · exact nm_w (k := 1) (by decide) h
  · exact nm_w (k := 2) (by decide) h
  · exact nm_w (k := 3) (by decide) h
  · exact nm_w (k := 4) (by decide) h
  · exact nm_w (k := 5) (by decide) h
  · exact nm_w (k := 6) (by decide) h
  · exact nm_w (k := 7) (by decide) h
  · exact nm_w (k := 8) (by decide) h
  · exact nm_w (k := 9) (by decide) h
  · exact nm_w (k := 10) (by decide) h
  · exact nm_w (k := 11) (by decide) h
  · exact nm_w (k := 12) (by decide) h
  · exact nm_w (k := 13) (by decide) h
  · exact nm_w (k := 14) (by decide) h
  · exact nm_w (k := 15) (by decide) h
  · exact nm_w (k := 16) (by decide) h
/-- bits of a number -/
def BT (x : Int32) (j : Nat) : Bool := x.toBitVec.getLsbD j
theorem bt_1 : ∀ i, i < 32 → 0 < i → (1 : Int32).toBitVec.getLsbD i = false := by decide +kernel
theorem bt_z : ∀ i, i < 32 → (0 : Int32).toBitVec.getLsbD i = false := by decide +kernel
theorem bt_c : ∀ k, k < 32 → (((nI k).toUInt32 &&& Int32.toUInt32 31).toBitVec % 32).toNat = k := by decide +kernel
theorem bt_s : ∀ n, n < 12 → ∀ j, j < 12 → ((1 : Int32) <<< (nI n &&& 31)).toBitVec.getLsbD j = decide (j = n) := by decide +kernel
theorem and1_bt (y : Int32) : y &&& 1 = if y.toBitVec.getLsbD 0 = true then 1 else 0 := by
  apply Int32.toBitVec_inj.mp
  apply BitVec.eq_of_getLsbD_eq
  intro i hi
  rw [Int32.toBitVec_and, BitVec.getLsbD_and]
  rcases Nat.eq_zero_or_pos i with q | q
  · subst q
    by_cases b : y.toBitVec.getLsbD 0 = true
    · rw [if_pos b, b]; rfl
    · rw [if_neg b, Bool.eq_false_iff.mpr b]; rfl
  · rw [bt_1 i hi q, Bool.and_false]
    by_cases b : y.toBitVec.getLsbD 0 = true
    · rw [if_pos b, bt_1 i hi q]
    · rw [if_neg b]; exact (bt_z i hi).symm
theorem bt_rd {x k : Int32} (h0 : 0 ≤ k.toInt) (h1 : k.toInt < 32) : ((x.toUInt32 >>> (k.toUInt32 &&& Int32.toUInt32 31)).toInt32 &&& 1).toInt = if BT x k.toInt.toNat = true then 1 else 0 := by
  obtain ⟨n, e, hn, _⟩ := nI_ofI h0
  have e2 : k.toInt.toNat = n := by omega
  rw [and1_bt, e2]
  have e3 : (x.toUInt32 >>> (k.toUInt32 &&& Int32.toUInt32 31)).toInt32.toBitVec.getLsbD 0 = BT x n := by
    subst e
    show (x.toUInt32 >>> ((nI n).toUInt32 &&& Int32.toUInt32 31)).toBitVec.getLsbD 0 = x.toUInt32.toBitVec.getLsbD n
    rw [UInt32.toBitVec_shiftRight]
    show (x.toUInt32.toBitVec >>> (((nI n).toUInt32 &&& Int32.toUInt32 31).toBitVec % 32).toNat).getLsbD 0 = _
    rw [bt_c n (by omega), BitVec.getLsbD_ushiftRight, Nat.add_zero]
  rw [e3]
  by_cases b : BT x n = true
  · rw [if_pos b, if_pos b]; rfl
  · rw [if_neg b, if_neg b]; rfl
theorem bt_or {x k : Int32} (h0 : 0 ≤ k.toInt) (h1 : k.toInt < 12) {j : Nat} (hj : j < 12) : BT (x ||| ((1 : Int32) <<< (k &&& 31))) j = (BT x j || decide (j = k.toInt.toNat)) := by
  obtain ⟨n, e, hn, _⟩ := nI_ofI h0
  have e2 : k.toInt.toNat = n := by omega
  have hn2 : n < 12 := by omega
  rw [e2]
  subst e
  unfold BT
  rw [Int32.toBitVec_or, BitVec.getLsbD_or, bt_s n hn2 j hj]
/-- what the class has told and what is told purely -/
def CN (wn sn : Nat → Int64) (w s : Int) (S : ((Nat → Int64) × Nat × (Nat → Int64) × Nat × (Nat → Bool) × (Nat → Bool) × Nat)) : Prop := w = ((S.2.1 : Nat) : Int) ∧ s = ((S.2.2.2.1 : Nat) : Int) ∧ (∀ j, j < S.2.1 → NMR (wn j) (S.1 j)) ∧ (∀ j, j < S.2.2.2.1 → NMR (sn j) (S.2.2.1 j))
def CR (wn sn : Nat → Int64) (w s nn : Int) (tops habs : Int32) (S : ((Nat → Int64) × Nat × (Nat → Int64) × Nat × (Nat → Bool) × (Nat → Bool) × Nat)) : Prop := CN wn sn w s S ∧ nn = ((S.2.2.2.2.2.2 : Nat) : Int) ∧ (∀ j, j < 12 → BT tops j = S.2.2.2.2.1 j) ∧ (∀ j, j < 12 → BT habs j = S.2.2.2.2.2.1 j)
theorem FX1 {wn nm : Nat → Int64} {c : Nat} {code v : Int64} (hN : ∀ j, j < c → NMR (wn j) (nm j)) (hv : NMR code v) (h : ∀ j, j < c → ¬ wn j = code) : fnd nm c v = c := fnd_no (fun j hj e => h j hj (((hN j hj).iff hv).mpr e))
theorem FX2 {wn nm : Nat → Int64} {c k : Nat} {code v : Int64} (hN : ∀ j, j < c → NMR (wn j) (nm j)) (hv : NMR code v) (hk : k < c) (h1 : wn k = code) (h : ∀ j, j < k → ¬ wn j = code) : fnd nm c v = k := fnd_eq hk (((hN k hk).iff hv).mp h1) (fun j hj e => h j hj (((hN j (by omega)).iff hv).mpr e))
theorem CR.ware {T : Nat → Int × Int64 × Nat} {wn sn wn' : Nat → Int64} {w s nn w' : Int} {tops habs : Int32} {S : ((Nat → Int64) × Nat × (Nat → Int64) × Nat × (Nat → Bool) × (Nat → Bool) × Nat)} {p : Nat} (h : CR wn sn w s nn tops habs S) (hw : w' = w + 1) (h1 : ∀ j : Nat, ¬ j = w.toNat → wn' j = wn j) (h2 : NMR (wn' w.toNat) (T (nx T p)).2.1) : CR wn' sn w' s nn tops habs (sWare T S p) := by
  obtain ⟨⟨a1, a2, a3, a4⟩, b, c, d⟩ := h
  have ew : w.toNat = S.2.1 := by omega
  rw [ew] at h1 h2
  refine ⟨⟨?_, a2, ?_, a4⟩, b, c, d⟩
  · show w' = ((S.2.1 + 1 : Nat) : Int); omega
  · intro j hj
    have hj2 : j < S.2.1 + 1 := hj
    show NMR (wn' j) (vp_updL S.1 S.2.1 (T (nx T p)).2.1 j)
    by_cases q : j = S.2.1
    · rw [q, pk_uLs]; exact h2
    · rw [pk_uLn q, h1 j q]; exact a3 j (by omega)
theorem CR.shelf {T : Nat → Int × Int64 × Nat} {wn sn sn' : Nat → Int64} {w s nn s' : Int} {tops habs : Int32} {S : ((Nat → Int64) × Nat × (Nat → Int64) × Nat × (Nat → Bool) × (Nat → Bool) × Nat)} {p : Nat} (h : CR wn sn w s nn tops habs S) (hw : s' = s + 1) (h1 : ∀ j : Nat, ¬ j = s.toNat → sn' j = sn j) (h2 : NMR (sn' s.toNat) (T (nx T p)).2.1) : CR wn sn' w s' nn tops habs (sShelf T S p) := by
  obtain ⟨⟨a1, a2, a3, a4⟩, b, c, d⟩ := h
  have ew : s.toNat = S.2.2.2.1 := by omega
  rw [ew] at h1 h2
  refine ⟨⟨a1, ?_, a3, ?_⟩, b, c, d⟩
  · show s' = ((S.2.2.2.1 + 1 : Nat) : Int); omega
  · intro j hj
    have hj2 : j < S.2.2.2.1 + 1 := hj
    show NMR (sn' j) (vp_updL S.2.2.1 S.2.2.2.1 (T (nx T p)).2.1 j)
    by_cases q : j = S.2.2.2.1
    · rw [q, pk_uLs]; exact h2
    · rw [pk_uLn q, h1 j q]; exact a4 j (by omega)
theorem updB_or {f : Nat → Bool} {k j : Nat} : updB f k j = (f j || decide (j = k)) := by
  unfold updB
  by_cases q : j = k
  · rw [if_pos q, decide_eq_true q, Bool.or_true]
  · rw [if_neg q, decide_eq_false q, Bool.or_false]
theorem CR.top {T : Nat → Int × Int64 × Nat} {wn sn : Nat → Int64} {w s nn : Int} {tops habs k : Int32} {S : ((Nat → Int64) × Nat × (Nat → Int64) × Nat × (Nat → Bool) × (Nat → Bool) × Nat)} {p : Nat} (h : CR wn sn w s nn tops habs S) (h0 : 0 ≤ k.toInt) (h1 : k.toInt < 12) (hk : k.toInt = ((fnd S.1 S.2.1 (T (nx T p)).2.1 : Nat) : Int)) : CR wn sn w s nn (tops ||| ((1 : Int32) <<< (k &&& 31))) habs (sTop T S p) := by
  obtain ⟨a, b, c, d⟩ := h
  refine ⟨a, b, fun j hj => ?_, d⟩
  show _ = updB S.2.2.2.2.1 (fnd S.1 S.2.1 (T (nx T p)).2.1) j
  rw [bt_or h0 h1 hj, updB_or, c j hj, hk, Int.toNat_natCast]
theorem CR.hab {T : Nat → Int × Int64 × Nat} {wn sn : Nat → Int64} {w s nn : Int} {tops habs k : Int32} {S : ((Nat → Int64) × Nat × (Nat → Int64) × Nat × (Nat → Bool) × (Nat → Bool) × Nat)} {p : Nat} (h : CR wn sn w s nn tops habs S) (h0 : 0 ≤ k.toInt) (h1 : k.toInt < 12) (hk : k.toInt = ((fnd S.1 S.2.1 (T (nx T p)).2.1 : Nat) : Int)) : CR wn sn w s nn tops (habs ||| ((1 : Int32) <<< (k &&& 31))) (sHab T S p) := by
  obtain ⟨a, b, c, d⟩ := h
  refine ⟨a, b, c, fun j hj => ?_⟩
  show _ = updB S.2.2.2.2.2.1 (fnd S.1 S.2.1 (T (nx T p)).2.1) j
  rw [bt_or h0 h1 hj, updB_or, d j hj, hk, Int.toNat_natCast]
theorem CR.nest {wn sn : Nat → Int64} {w s nn nn' : Int} {tops habs : Int32} {S : ((Nat → Int64) × Nat × (Nat → Int64) × Nat × (Nat → Bool) × (Nat → Bool) × Nat)} (h : CR wn sn w s nn tops habs S) (hw : nn' = nn + 1) : CR wn sn w s nn' tops habs (sNest S) := by
  obtain ⟨a, b, c, d⟩ := h
  refine ⟨a, ?_, c, d⟩
  show nn' = ((S.2.2.2.2.2.2 + 1 : Nat) : Int); omega
theorem CR.zero {wn sn : Nat → Int64} : CR wn sn 0 0 0 0 0 S0 := ⟨⟨rfl, rfl, fun j hj => absurd hj (Nat.not_lt_zero j), fun j hj => absurd hj (Nat.not_lt_zero j)⟩, rfl, fun j hj => bt_z j (by omega), fun j hj => bt_z j (by omega)⟩
/-- a WARE behind a word -/
def RW (ret pl fa fa0 : Int) (k : Nat) (r : Nat × Int) : Prop := (0 ≤ ret → r = (pl.toNat, 0) ∧ fa = fa0 ∧ ret = (k : Int)) ∧ (ret = -1 → r.2 = fa ∧ ¬ r.2 = 0)
theorem RW.wr {ret pl fa fa0 k : Int} {n : Nat} (hr : ret = -1) (h : fa = k + 16 * pl) (h0 : 0 ≤ pl) (hk : 1 ≤ k) : RW ret pl fa fa0 n (flt k pl.toNat) := ⟨fun z => absurd z (by omega), fun _ => ⟨by show k + 16 * ((pl.toNat : Nat) : Int) = fa; omega, flt_ne hk⟩⟩
theorem RW.mv {ret pl fa fa0 : Int} {n : Nat} {r r' : Nat × Int} (h : RW ret pl fa fa0 n r) (e : r' = r) : RW ret pl fa fa0 n r' := e ▸ h
/-- the reading of all under way -/
def RDG (T : Nat → Int × Int64 × Nat) (wn sn : Nat → Int64) (w s nn : Int) (tops habs : Int32) (k : Nat) (ret pl fa : Int) (F : Int) : Prop := (ret = 1 → ∃ S : ((Nat → Int64) × Nat × (Nat → Int64) × Nat × (Nat → Bool) × (Nat → Bool) × Nat), CR wn sn w s nn tops habs S ∧ rAll T k S pl.toNat = F ∧ fa = 0) ∧ (ret = 0 → fa = F)
theorem wnE_2 : wnL 2 = WN 0 := by decide +kernel
theorem wnE_3 : wnL 3 = WN 1 := by decide +kernel
theorem wnE_4 : wnL 4 = WN 2 := by decide +kernel
theorem wnE_5 : wnL 5 = WN 3 := by decide +kernel
theorem wnE_6 : wnL 6 = WN 4 := by decide +kernel
theorem wnE_7 : wnL 7 = WN 5 := by decide +kernel
theorem wnE_8 : wnL 8 = WN 6 := by decide +kernel
theorem wnE_9 : wnL 9 = WN 7 := by decide +kernel
theorem wnE_10 : wnL 10 = WN 8 := by decide +kernel
theorem wnE_11 : wnL 11 = WN 9 := by decide +kernel
theorem wnE_12 : wnL 12 = WN 10 := by decide +kernel
theorem wnE_13 : wnL 13 = WN 11 := by decide +kernel
theorem wnE_14 : wnL 14 = WN 12 := by decide +kernel
theorem wnE_15 : wnL 15 = WN 13 := by decide +kernel
theorem wnE_16 : wnL 16 = WN 15 := by decide +kernel
theorem wnE_17 : wnL 17 = WN 16 := by decide +kernel
theorem wnE_18 : wnL 18 = WN 14 := by decide +kernel
theorem wnE_19 : wnL 19 = WN 17 := by decide +kernel
theorem wnE_20 : wnL 20 = WN 18 := by decide +kernel
theorem wnE_21 : wnL 21 = WN 19 := by decide +kernel
theorem wnE_22 : wnL 22 = WN 20 := by decide +kernel
theorem wnE_23 : wnL 23 = WN 21 := by decide +kernel
theorem wnE_24 : wnL 24 = WN 22 := by decide +kernel
theorem wnE_26 : wnL 26 = WN 0 := by decide +kernel
theorem wnE_27 : wnL 27 = WN 1 := by decide +kernel
theorem wnE_28 : wnL 28 = WN 2 := by decide +kernel
theorem wnE_29 : wnL 29 = WN 3 := by decide +kernel
theorem wnE_30 : wnL 30 = WN 4 := by decide +kernel
theorem wnE_31 : wnL 31 = WN 5 := by decide +kernel
theorem wnE_32 : wnL 32 = WN 6 := by decide +kernel
theorem wnE_33 : wnL 33 = WN 7 := by decide +kernel
theorem wnE_34 : wnL 34 = WN 8 := by decide +kernel
theorem wnE_35 : wnL 35 = WN 9 := by decide +kernel
theorem wnE_36 : wnL 36 = WN 10 := by decide +kernel
theorem wnE_37 : wnL 37 = WN 11 := by decide +kernel
theorem wnE_38 : wnL 38 = WN 12 := by decide +kernel
theorem wnE_39 : wnL 39 = WN 13 := by decide +kernel
theorem wnE_40 : wnL 40 = WN 14 := by decide +kernel
theorem wnE_41 : wnL 41 = WN 15 := by decide +kernel
theorem wnE_42 : wnL 42 = WN 16 := by decide +kernel

/-- the number at a place -/
def nb (T : Nat → Int × Int64 × Nat) (p : Nat) : Int := (T p).2.1.toInt
def rowU (W : Nat → Nat → Int) (n : Nat) (r : Nat → Int) : Nat → Nat → Int := fun j => if j = n then r else W j
theorem rowU_s {W : Nat → Nat → Int} {n : Nat} {r : Nat → Int} : rowU W n r n = r := if_pos rfl
theorem rowU_n {W : Nat → Nat → Int} {n j : Nat} {r : Nat → Int} (h : ¬ j = n) : rowU W n r j = W j := if_neg h
def row5 (a b c d e h : Int) : Nat → Int := fun k => if k = 0 then a else if k = 1 then b else if k = 2 then c else if k = 3 then d else if k = 4 then e else h
/-- what is told in numbers behind a statement: of the wares wide, deep, weight, bears, breaks, habit; lids; of the shelves height, reach, room -/
def nBowl (T : Nat → Int × Int64 × Nat) (S : ((Nat → Int64) × Nat × (Nat → Int64) × Nat × (Nat → Bool) × (Nat → Bool) × Nat)) (N : ((Nat → Nat → Int) × (Nat → Bool) × (Nat → Nat → Int))) (p : Nat) : ((Nat → Nat → Int) × (Nat → Bool) × (Nat → Nat → Int)) := (rowU N.1 S.2.1 (row5 (nb T (nx T (nx T (nx T p)))) (nb T (nx T (nx T (nx T (nx T (nx T p)))))) (nb T (nx T (nx T (nx T (nx T (nx T (nx T (nx T p)))))))) (nb T (nx T (nx T (nx T (nx T (nx T (nx T (nx T (nx T (nx T p)))))))))) (nb T (nx T (nx T (nx T (nx T (nx T (nx T (nx T (nx T (nx T (nx T (nx T p)))))))))))) (N.1 S.2.1 5)), N.2)
def nLid (T : Nat → Int × Int64 × Nat) (S : ((Nat → Int64) × Nat × (Nat → Int64) × Nat × (Nat → Bool) × (Nat → Bool) × Nat)) (N : ((Nat → Nat → Int) × (Nat → Bool) × (Nat → Nat → Int))) (p : Nat) : ((Nat → Nat → Int) × (Nat → Bool) × (Nat → Nat → Int)) := (rowU N.1 S.2.1 (row5 (nb T (nx T (nx T (nx T p)))) 1 (nb T (nx T (nx T (nx T (nx T (nx T p)))))) 0 (nb T (nx T (nx T (nx T (nx T (nx T (nx T (nx T p)))))))) (N.1 S.2.1 5)), updB N.2.1 S.2.1, N.2.2)
def nShelf (T : Nat → Int × Int64 × Nat) (S : ((Nat → Int64) × Nat × (Nat → Int64) × Nat × (Nat → Bool) × (Nat → Bool) × Nat)) (N : ((Nat → Nat → Int) × (Nat → Bool) × (Nat → Nat → Int))) (p : Nat) : ((Nat → Nat → Int) × (Nat → Bool) × (Nat → Nat → Int)) := (N.1, N.2.1, rowU N.2.2 S.2.2.2.1 (fun k => if k = 0 then nb T (nx T (nx T (nx T p))) else if k = 1 then nb T (nx T (nx T (nx T (nx T (nx T p))))) else nb T (nx T (nx T (nx T (nx T (nx T (nx T (nx T p)))))))))
def nHab (T : Nat → Int × Int64 × Nat) (S : ((Nat → Int64) × Nat × (Nat → Int64) × Nat × (Nat → Bool) × (Nat → Bool) × Nat)) (N : ((Nat → Nat → Int) × (Nat → Bool) × (Nat → Nat → Int))) (p : Nat) : ((Nat → Nat → Int) × (Nat → Bool) × (Nat → Nat → Int)) := (rowU N.1 (fnd S.1 S.2.1 (T (nx T p)).2.1) (fun k => if k = 5 then nb T (nx T (nx T p)) else N.1 (fnd S.1 S.2.1 (T (nx T p)).2.1) k), N.2)
def nLine (T : Nat → Int × Int64 × Nat) (S : ((Nat → Int64) × Nat × (Nat → Int64) × Nat × (Nat → Bool) × (Nat → Bool) × Nat)) (N : ((Nat → Nat → Int) × (Nat → Bool) × (Nat → Nat → Int))) (p : Nat) : ((Nat → Nat → Int) × (Nat → Bool) × (Nat → Nat → Int)) :=
  if isW T p (WN 0) = true then nBowl T S N p else if isW T p (WN 1) = true then nLid T S N p else if isW T p (WN 2) = true then nShelf T S N p else if isW T p (WN 3) = true then N else if isW T p (WN 4) = true then nHab T S N p else N
def N0 : ((Nat → Nat → Int) × (Nat → Bool) × (Nat → Nat → Int)) := (fun _ _ => 0, fun _ => false, fun _ _ => 0)
/-- what is told in the end -/
def rFin (T : Nat → Int × Int64 × Nat) : Nat → ((Nat → Int64) × Nat × (Nat → Int64) × Nat × (Nat → Bool) × (Nat → Bool) × Nat) → ((Nat → Nat → Int) × (Nat → Bool) × (Nat → Nat → Int)) → Nat → ((Nat → Int64) × Nat × (Nat → Int64) × Nat × (Nat → Bool) × (Nat → Bool) × Nat) × ((Nat → Nat → Int) × (Nat → Bool) × (Nat → Nat → Int))
  | 0, S, N, _ => (S, N)
  | k + 1, S, N, p => if (T p).1 = 0 then (S, N) else if (rStm T S p).2 = 0 then rFin T k (sLine T S p) (nLine T S N p) (rStm T S p).1 else (S, N)
theorem rFin_end {T : Nat → Int × Int64 × Nat} {S : ((Nat → Int64) × Nat × (Nat → Int64) × Nat × (Nat → Bool) × (Nat → Bool) × Nat)} {N : ((Nat → Nat → Int) × (Nat → Bool) × (Nat → Nat → Int))} {p : Nat} (h : (T p).1 = 0) : ∀ k, rFin T k S N p = (S, N)
  | 0 => rfl
  | _ + 1 => if_pos h
theorem rFin_ok {T : Nat → Int × Int64 × Nat} {S : ((Nat → Int64) × Nat × (Nat → Int64) × Nat × (Nat → Bool) × (Nat → Bool) × Nat)} {N : ((Nat → Nat → Int) × (Nat → Bool) × (Nat → Nat → Int))} {p q : Nat} {k : Nat} (h : ¬ (T p).1 = 0) (h2 : rStm T S p = (q, 0)) : rFin T (k + 1) S N p = rFin T k (sLine T S p) (nLine T S N p) q := by
  show (if (T p).1 = 0 then (S, N) else if (rStm T S p).2 = 0 then rFin T k (sLine T S p) (nLine T S N p) (rStm T S p).1 else (S, N)) = _
  rw [if_neg h, h2]; exact if_pos rfl
def cupN (f : Nat → Int32) (n : Nat) : ((Nat → Int64) × Nat × (Nat → Int64) × Nat × (Nat → Bool) × (Nat → Bool) × Nat) × ((Nat → Nat → Int) × (Nat → Bool) × (Nat → Nat → Int)) := rFin (TKS f n) 1000 S0 N0 (tP f n 0)
theorem cupN_cong {f g : Nat → Int32} {n : Nat} (hg : ∀ j : Nat, j < n → g j = f j) : cupN g n = cupN f n := by unfold cupN; rw [TKS_cong hg, tP_cong hg]
/-- where one is behind what was right -/
theorem rNew_ok {T : Nat → Int × Int64 × Nat} {S : ((Nat → Int64) × Nat × (Nat → Int64) × Nat × (Nat → Bool) × (Nat → Bool) × Nat)} {p q : Nat} (h : rNew T S p = (q, 0)) : q = nx T p := by
  unfold rNew at h
  by_cases q1 : isNm T p = true
  · rw [if_pos q1] at h
    by_cases q2 : fnd S.1 S.2.1 (T p).2.1 < S.2.1 ∨ fnd S.2.2.1 S.2.2.2.1 (T p).2.1 < S.2.2.2.1
    · rw [if_pos q2] at h; exact absurd (congrArg Prod.snd h) (flt_ne (by decide))
    · rw [if_neg q2] at h; exact (congrArg Prod.fst h).symm
  · rw [if_neg q1] at h; exact absurd (congrArg Prod.snd h) (flt_ne (by decide))
theorem rOld_ok {T : Nat → Int × Int64 × Nat} {S : ((Nat → Int64) × Nat × (Nat → Int64) × Nat × (Nat → Bool) × (Nat → Bool) × Nat)} {a : Nat → Bool} {p q : Nat} (h : rOld T S a p = (q, 0)) : q = nx T p := by
  unfold rOld at h
  by_cases q1 : isNm T p = true
  · rw [if_pos q1] at h
    by_cases q2 : fnd S.1 S.2.1 (T p).2.1 < S.2.1
    · rw [if_pos q2] at h
      by_cases q3 : a (fnd S.1 S.2.1 (T p).2.1) = true
      · rw [if_pos q3] at h; exact absurd (congrArg Prod.snd h) (flt_ne (by decide))
      · rw [if_neg q3] at h; exact (congrArg Prod.fst h).symm
    · rw [if_neg q2] at h; exact absurd (congrArg Prod.snd h) (flt_ne (by decide))
  · rw [if_neg q1] at h; exact absurd (congrArg Prod.snd h) (flt_ne (by decide))
theorem rNum_ok {T : Nat → Int × Int64 × Nat} {lo hi : Int} {p q : Nat} (h : rNum T lo hi p = (q, 0)) : q = nx T p := by
  unfold rNum at h
  by_cases q1 : (T p).1 = 2
  · rw [if_pos q1] at h
    by_cases q2 : lo ≤ (T p).2.1.toInt ∧ (T p).2.1.toInt ≤ hi
    · rw [if_pos q2] at h; exact (congrArg Prod.fst h).symm
    · rw [if_neg q2] at h; exact absurd (congrArg Prod.snd h) (flt_ne (by decide))
  · rw [if_neg q1] at h; exact absurd (congrArg Prod.snd h) (flt_ne (by decide))
theorem rAmt_ok {T : Nat → Int × Int64 × Nat} {w : Int64} {lo hi : Int} {p q : Nat} (h : rAmt T w lo hi p = (q, 0)) : q = nx T (nx T p) := by
  unfold rAmt at h
  by_cases q1 : isW T p w = true
  · rw [if_pos q1] at h; exact rNum_ok h
  · rw [if_neg q1] at h; exact absurd (congrArg Prod.snd h) (flt_ne (by decide))
/-- the class's rows hold the numbers told of w wares and s shelves -/
def CW (wd dp wt br bk hb : Nat → Int32) (lids : Int32) (ht rc rm : Nat → Int32) (w s : Int) (N : ((Nat → Nat → Int) × (Nat → Bool) × (Nat → Nat → Int))) : Prop := (∀ j : Nat, (j : Int) < w → (wd j).toInt = N.1 j 0 ∧ (dp j).toInt = N.1 j 1 ∧ (wt j).toInt = N.1 j 2 ∧ (br j).toInt = N.1 j 3 ∧ (bk j).toInt = N.1 j 4) ∧ (∀ j, j < 12 → (hb j).toInt = N.1 j 5) ∧ (∀ j, j < 12 → BT lids j = N.2.1 j) ∧ (∀ j : Nat, (j : Int) < s → (ht j).toInt = N.2.2 j 0 ∧ (rc j).toInt = N.2.2 j 1 ∧ (rm j).toInt = N.2.2 j 2)
theorem CW.bowl {T : Nat → Int × Int64 × Nat} {wd dp wt br bk hb wd' dp' wt' br' bk' : Nat → Int32} {lids : Int32} {ht rc rm : Nat → Int32} {w s w' : Int} {S : ((Nat → Int64) × Nat × (Nat → Int64) × Nat × (Nat → Bool) × (Nat → Bool) × Nat)} {N : ((Nat → Nat → Int) × (Nat → Bool) × (Nat → Nat → Int))} {p : Nat} (h : CW wd dp wt br bk hb lids ht rc rm w s N) (h0 : 0 ≤ w) (hS : w = ((S.2.1 : Nat) : Int)) (hw : w' = w + 1)
    (f0 : ∀ j : Nat, ¬ j = w.toNat → wd' j = wd j) (f1 : ∀ j : Nat, ¬ j = w.toNat → dp' j = dp j) (f2 : ∀ j : Nat, ¬ j = w.toNat → wt' j = wt j) (f3 : ∀ j : Nat, ¬ j = w.toNat → br' j = br j) (f4 : ∀ j : Nat, ¬ j = w.toNat → bk' j = bk j)
    (v0 : (wd' w.toNat).toInt = nb T (nx T (nx T (nx T p)))) (v1 : (dp' w.toNat).toInt = nb T (nx T (nx T (nx T (nx T (nx T p)))))) (v2 : (wt' w.toNat).toInt = nb T (nx T (nx T (nx T (nx T (nx T (nx T (nx T p)))))))) (v3 : (br' w.toNat).toInt = nb T (nx T (nx T (nx T (nx T (nx T (nx T (nx T (nx T (nx T p)))))))))) (v4 : (bk' w.toNat).toInt = nb T (nx T (nx T (nx T (nx T (nx T (nx T (nx T (nx T (nx T (nx T (nx T p)))))))))))) : CW wd' dp' wt' br' bk' hb lids ht rc rm w' s (nBowl T S N p) := by
  obtain ⟨a, b, c, d⟩ := h
  have en : w.toNat = S.2.1 := by omega
  rw [en] at f0 f1 f2 f3 f4 v0 v1 v2 v3 v4
  refine ⟨fun j hj => ?_, fun j hj => ?_, c, d⟩
  · show (wd' j).toInt = rowU N.1 S.2.1 _ j 0 ∧ (dp' j).toInt = rowU N.1 S.2.1 _ j 1 ∧ (wt' j).toInt = rowU N.1 S.2.1 _ j 2 ∧ (br' j).toInt = rowU N.1 S.2.1 _ j 3 ∧ (bk' j).toInt = rowU N.1 S.2.1 _ j 4
    by_cases q : j = S.2.1
    · rw [q, rowU_s]; exact ⟨v0, v1, v2, v3, v4⟩
    · rw [rowU_n q, f0 j q, f1 j q, f2 j q, f3 j q, f4 j q]; exact a j (by omega)
  · show (hb j).toInt = rowU N.1 S.2.1 _ j 5
    by_cases q : j = S.2.1
    · rw [q, rowU_s]; exact b S.2.1 (by omega)
    · rw [rowU_n q]; exact b j hj
theorem CW.lid {T : Nat → Int × Int64 × Nat} {wd dp wt br bk hb wd' dp' wt' br' bk' : Nat → Int32} {lids lids' k : Int32} {ht rc rm : Nat → Int32} {w s w' : Int} {S : ((Nat → Int64) × Nat × (Nat → Int64) × Nat × (Nat → Bool) × (Nat → Bool) × Nat)} {N : ((Nat → Nat → Int) × (Nat → Bool) × (Nat → Nat → Int))} {p : Nat} (h : CW wd dp wt br bk hb lids ht rc rm w s N) (h0 : 0 ≤ w) (h12 : w < 12) (hk : k.toInt = w) (hl : lids' = lids ||| ((1 : Int32) <<< (k &&& 31))) (hS : w = ((S.2.1 : Nat) : Int)) (hw : w' = w + 1)
    (f0 : ∀ j : Nat, ¬ j = w.toNat → wd' j = wd j) (f1 : ∀ j : Nat, ¬ j = w.toNat → dp' j = dp j) (f2 : ∀ j : Nat, ¬ j = w.toNat → wt' j = wt j) (f3 : ∀ j : Nat, ¬ j = w.toNat → br' j = br j) (f4 : ∀ j : Nat, ¬ j = w.toNat → bk' j = bk j)
    (v0 : (wd' w.toNat).toInt = nb T (nx T (nx T (nx T p)))) (v1 : (dp' w.toNat).toInt = 1) (v2 : (wt' w.toNat).toInt = nb T (nx T (nx T (nx T (nx T (nx T p)))))) (v3 : (br' w.toNat).toInt = 0) (v4 : (bk' w.toNat).toInt = nb T (nx T (nx T (nx T (nx T (nx T (nx T (nx T p)))))))) : CW wd' dp' wt' br' bk' hb lids' ht rc rm w' s (nLid T S N p) := by
  obtain ⟨a, b, c, d⟩ := h
  have en : w.toNat = S.2.1 := by omega
  rw [en] at f0 f1 f2 f3 f4 v0 v1 v2 v3 v4
  refine ⟨fun j hj => ?_, fun j hj => ?_, fun j hj => ?_, d⟩
  · show (wd' j).toInt = rowU N.1 S.2.1 _ j 0 ∧ (dp' j).toInt = rowU N.1 S.2.1 _ j 1 ∧ (wt' j).toInt = rowU N.1 S.2.1 _ j 2 ∧ (br' j).toInt = rowU N.1 S.2.1 _ j 3 ∧ (bk' j).toInt = rowU N.1 S.2.1 _ j 4
    by_cases q : j = S.2.1
    · rw [q, rowU_s]; exact ⟨v0, v1, v2, v3, v4⟩
    · rw [rowU_n q, f0 j q, f1 j q, f2 j q, f3 j q, f4 j q]; exact a j (by omega)
  · show (hb j).toInt = rowU N.1 S.2.1 _ j 5
    by_cases q : j = S.2.1
    · rw [q, rowU_s]; exact b S.2.1 (by omega)
    · rw [rowU_n q]; exact b j hj
  · show BT lids' j = updB N.2.1 S.2.1 j
    rw [hl, bt_or (by omega) (by omega) hj, updB_or, c j hj, hk, en]
theorem CW.shelf {T : Nat → Int × Int64 × Nat} {wd dp wt br bk hb : Nat → Int32} {lids : Int32} {ht rc rm ht' rc' rm' : Nat → Int32} {w s s' : Int} {S : ((Nat → Int64) × Nat × (Nat → Int64) × Nat × (Nat → Bool) × (Nat → Bool) × Nat)} {N : ((Nat → Nat → Int) × (Nat → Bool) × (Nat → Nat → Int))} {p : Nat} (h : CW wd dp wt br bk hb lids ht rc rm w s N) (h0 : 0 ≤ s) (hS : s = ((S.2.2.2.1 : Nat) : Int)) (hw : s' = s + 1)
    (f0 : ∀ j : Nat, ¬ j = s.toNat → ht' j = ht j) (f1 : ∀ j : Nat, ¬ j = s.toNat → rc' j = rc j) (f2 : ∀ j : Nat, ¬ j = s.toNat → rm' j = rm j)
    (v0 : (ht' s.toNat).toInt = nb T (nx T (nx T (nx T p)))) (v1 : (rc' s.toNat).toInt = nb T (nx T (nx T (nx T (nx T (nx T p)))))) (v2 : (rm' s.toNat).toInt = nb T (nx T (nx T (nx T (nx T (nx T (nx T (nx T p)))))))) : CW wd dp wt br bk hb lids ht' rc' rm' w s' (nShelf T S N p) := by
  obtain ⟨a, b, c, d⟩ := h
  have en : s.toNat = S.2.2.2.1 := by omega
  rw [en] at f0 f1 f2 v0 v1 v2
  refine ⟨a, b, c, fun j hj => ?_⟩
  show (ht' j).toInt = rowU N.2.2 S.2.2.2.1 _ j 0 ∧ (rc' j).toInt = rowU N.2.2 S.2.2.2.1 _ j 1 ∧ (rm' j).toInt = rowU N.2.2 S.2.2.2.1 _ j 2
  by_cases q : j = S.2.2.2.1
  · rw [q, rowU_s]; exact ⟨v0, v1, v2⟩
  · rw [rowU_n q, f0 j q, f1 j q, f2 j q]; exact d j (by omega)
theorem CW.hab {T : Nat → Int × Int64 × Nat} {wd dp wt br bk hb hb' : Nat → Int32} {lids : Int32} {ht rc rm : Nat → Int32} {w s : Int} {S : ((Nat → Int64) × Nat × (Nat → Int64) × Nat × (Nat → Bool) × (Nat → Bool) × Nat)} {N : ((Nat → Nat → Int) × (Nat → Bool) × (Nat → Nat → Int))} {p k : Nat} (h : CW wd dp wt br bk hb lids ht rc rm w s N) (hk : k = fnd S.1 S.2.1 (T (nx T p)).2.1) (f0 : ∀ j : Nat, ¬ j = k → hb' j = hb j) (v0 : (hb' k).toInt = nb T (nx T (nx T p))) : CW wd dp wt br bk hb' lids ht rc rm w s (nHab T S N p) := by
  obtain ⟨a, b, c, d⟩ := h
  refine ⟨fun j hj => ?_, fun j hj => ?_, c, d⟩
  · show (wd j).toInt = rowU N.1 (fnd S.1 S.2.1 (T (nx T p)).2.1) _ j 0 ∧ (dp j).toInt = rowU N.1 (fnd S.1 S.2.1 (T (nx T p)).2.1) _ j 1 ∧ (wt j).toInt = rowU N.1 (fnd S.1 S.2.1 (T (nx T p)).2.1) _ j 2 ∧ (br j).toInt = rowU N.1 (fnd S.1 S.2.1 (T (nx T p)).2.1) _ j 3 ∧ (bk j).toInt = rowU N.1 (fnd S.1 S.2.1 (T (nx T p)).2.1) _ j 4
    rw [← hk]
    by_cases q : j = k
    · rw [q, rowU_s]; rw [q] at hj; exact a k hj
    · rw [rowU_n q]; exact a j hj
  · show (hb' j).toInt = rowU N.1 (fnd S.1 S.2.1 (T (nx T p)).2.1) _ j 5
    rw [← hk]
    by_cases q : j = k
    · rw [q, rowU_s]; exact v0
    · rw [rowU_n q, f0 j q]; exact b j hj

/-- the step of a joint; which fact a word is -/
def jcd (T : Nat → Int × Int64 × Nat) (rk p : Nat) : Int := if rk = 0 then (if isW T p (WN 15) = true then -10 else -11) else if rk = 1 then (if isG T p 60 = true then -12 else -13) else if rk = 2 then (if isG T p 43 = true then -14 else -15) else -16
def fci (T : Nat → Int × Int64 × Nat) (p : Nat) : Nat := if isW T p (WN 17) = true then 0 else if isW T p (WN 18) = true then 1 else if isW T p (WN 19) = true then 2 else if isW T p (WN 7) = true then 3 else if isW T p (WN 20) = true then 4 else if isW T p (WN 21) = true then 5 else if isW T p (WN 1) = true then 6 else 7
theorem jcd_lt (T : Nat → Int × Int64 × Nat) (rk q : Nat) : jcd T rk q < -9 := by
  unfold jcd; (repeat' split) <;> omega
theorem jcd_ge (T : Nat → Int × Int64 × Nat) (rk q : Nat) : -16 ≤ jcd T rk q := by
  unfold jcd; (repeat' split) <;> omega
theorem fci_lt (T : Nat → Int × Int64 × Nat) (q : Nat) : fci T q < 8 := by
  unfold fci; (repeat' split) <;> omega
def jn6 (x : Int) (a b : Int32) : Int32 := if x = -10 then (if ¬ a = 0 ∧ ¬ b = 0 then 1 else 0) else if x = -11 then (if ¬ a = 0 ∨ ¬ b = 0 then 1 else 0) else if x = -12 then (if a < b then 1 else 0) else if x = -13 then (if a = b then 1 else 0) else if x = -14 then a + b else if x = -15 then a - b else a * b
/-- the worth of a chain: behind its first one; of parts -/
def chV (sub : Nat → Nat × Int) (vs : Nat → Int32) (nxt : Nat → Nat) (jn : Nat → Bool) (cj : Nat → Int) : Nat → Nat × Int → Int32 → Int32
  | 0, _, a => a
  | k + 1, r, a => if r.2 = 0 ∧ jn r.1 = true then chV sub vs nxt jn cj k (sub (nxt r.1)) (jn6 (cj r.1) a (vs (nxt r.1))) else a
def vLv (T : Nat → Int × Int64 × Nat) (P : Nat → Nat × Int) (V : Nat → (Nat → Int32) → Int32) : Nat → Nat → (Nat → Int32) → Int32
  | 0 => V
  | k + 1 => fun p fc => chV (rLv T P k) (fun q => vLv T P V k q fc) (nx T) (jnt T (3 - k)) (jcd T (3 - k)) (mst (3 - k)) (rLv T P k p) (vLv T P V k p fc)
def vPt (T : Nat → Int × Int64 × Nat) : Nat → Nat → (Nat → Int32) → Int32
  | 0 => fun _ _ => 0
  | d + 1 => fun p fc => if isG T p 40 = true then vLv T (rPt T d) (vPt T d) 4 (nx T p) fc else if isW T p (WN 14) = true then (if vPt T d (nx T p) fc = 0 then 1 else 0) else if (T p).1 = 2 then (T p).2.1.toInt32 else fc (fci T p)
/-- a chain under way: A is what it is worth so far, R what it is worth in the end -/
def CV (T : Nat → Int × Int64 × Nat) (sub : Nat → Nat × Int) (vs : Nat → (Nat → Int32) → Int32) (jn : Nat → Bool) (cj : Nat → Int) (k pl : Nat) (R A : (Nat → Int32) → Int32) : Prop := ∀ fc : Nat → Int32, chV sub (fun q => vs q fc) (nx T) jn cj k (pl, 0) (A fc) = R fc
theorem CV.step {T : Nat → Int × Int64 × Nat} {sub : Nat → Nat × Int} {vs : Nat → (Nat → Int32) → Int32} {jn : Nat → Bool} {cj : Nat → Int} {k pl q pl' : Nat} {R A : (Nat → Int32) → Int32} (h : CV T sub vs jn cj (k + 1) pl R A) (hj : jn pl = true) (hq : q = nx T pl) (hs : sub q = (pl', 0)) : CV T sub vs jn cj k pl' R (fun fc => jn6 (cj pl) (A fc) (vs q fc)) := fun fc => by
  have e := h fc
  have e2 : chV sub (fun q => vs q fc) (nx T) jn cj (k + 1) (pl, 0) (A fc) = chV sub (fun q => vs q fc) (nx T) jn cj k (sub (nx T pl)) (jn6 (cj pl) (A fc) (vs (nx T pl) fc)) := if_pos ⟨rfl, hj⟩
  rw [e2, ← hq, hs] at e
  exact e
theorem CV.stop {T : Nat → Int × Int64 × Nat} {sub : Nat → Nat × Int} {vs : Nat → (Nat → Int32) → Int32} {jn : Nat → Bool} {cj : Nat → Int} {k pl : Nat} {R A : (Nat → Int32) → Int32} (h : CV T sub vs jn cj k pl R A) (hj : k = 0 ∨ ¬ jn pl = true) : A = R := funext fun fc => by
  have e := h fc
  cases k with
  | zero => exact e
  | succ k =>
    rcases hj with q | q
    · exact absurd q (Nat.succ_ne_zero k)
    · have e2 : chV sub (fun q => vs q fc) (nx T) jn cj (k + 1) (pl, 0) (A fc) = A fc := if_neg (fun z => q z.2)
      rw [e2] at e; exact e
theorem CV.start {T : Nat → Int × Int64 × Nat} {P : Nat → Nat × Int} {V : Nat → (Nat → Int32) → Int32} {k p pl : Nat} (h : rLv T P k p = (pl, 0)) : CV T (rLv T P k) (vLv T P V k) (jnt T (3 - k)) (jcd T (3 - k)) (mst (3 - k)) pl (vLv T P V (k + 1) p) (vLv T P V k p) := fun fc => by
  show _ = chV (rLv T P k) (fun q => vLv T P V k q fc) (nx T) (jnt T (3 - k)) (jcd T (3 - k)) (mst (3 - k)) (rLv T P k p) (vLv T P V k p fc)
  rw [h]
/-- the class's steps: how many wait, and they -/
def cst (fc : Nat → Int32) (x : Int32) (z : Nat × (Nat → Int32)) : Nat × (Nat → Int32) :=
  if -8 ≤ x.toInt then (if z.1 < 32 then (z.1 + 1, upd z.2 z.1 (if 0 ≤ x.toInt then x else fc (-1 - x.toInt).toNat)) else z) else if x.toInt = -9 then (if 1 ≤ z.1 then (z.1, upd z.2 (z.1 - 1) (if z.2 (z.1 - 1) = 0 then 1 else 0)) else z) else if 2 ≤ z.1 then (z.1 - 1, upd z.2 (z.1 - 2) (jn6 x.toInt (z.2 (z.1 - 2)) (z.2 (z.1 - 1)))) else z
def crun (fc f : Nat → Int32) : Nat → Nat → Nat × (Nat → Int32) → Nat × (Nat → Int32)
  | 0, _, z => z
  | k + 1, i, z => crun fc f k (i + 1) (cst fc (f i) z)
theorem crun_add {fc f : Nat → Int32} {m : Nat} : ∀ (n i : Nat) (z : Nat × (Nat → Int32)), crun fc f (n + m) i z = crun fc f m (i + n) (crun fc f n i z) := by
  intro n
  induction n with
  | zero => intro i z; rw [Nat.zero_add]; rfl
  | succ n ih =>
    intro i z
    rw [Nat.succ_add]
    show crun fc f (n + m) (i + 1) (cst fc (f i) z) = crun fc f m (i + (n + 1)) (crun fc f n (i + 1) (cst fc (f i) z))
    rw [ih (i + 1), show i + 1 + n = i + (n + 1) from (by omega)]
theorem crun_cong {fc f g : Nat → Int32} : ∀ (n i : Nat) (z : Nat × (Nat → Int32)), (∀ j, i ≤ j → j < i + n → g j = f j) → crun fc g n i z = crun fc f n i z := by
  intro n
  induction n with
  | zero => intro i z _; rfl
  | succ n ih =>
    intro i z h
    show crun fc g n (i + 1) (cst fc (g i) z) = crun fc f n (i + 1) (cst fc (f i) z)
    rw [h i (Nat.le_refl i) (by omega)]
    exact ih (i + 1) _ (fun j h1 h2 => h j (by omega) (by omega))
/-- a run that leaves one more, the worth V -/
def LV1 (z z' : Nat × (Nat → Int32)) (v : Int32) : Prop := z'.1 = z.1 + 1 ∧ z'.2 z.1 = v ∧ ∀ j, j < z.1 → z'.2 j = z.2 j
def CSeg (f : Nat → Int32) (a b h : Nat) (V : (Nat → Int32) → Int32) : Prop := a ≤ b ∧ ∀ (fc : Nat → Int32) (z : Nat × (Nat → Int32)), z.1 + h ≤ 32 → LV1 z (crun fc f (b - a) a z) (V fc)
theorem CSeg.frame {f g : Nat → Int32} {a b h : Nat} {V : (Nat → Int32) → Int32} (s : CSeg f a b h V) (hf : ∀ j, j < b → g j = f j) : CSeg g a b h V := ⟨s.1, fun fc z hz => by
  rw [crun_cong (f := f) _ _ _ (fun j h1 h2 => hf j (by have := s.1; omega))]
  exact s.2 fc z hz⟩
theorem CSeg.mono {f : Nat → Int32} {a b h k : Nat} {V : (Nat → Int32) → Int32} (s : CSeg f a b h V) (hk : h ≤ k) : CSeg f a b k V := ⟨s.1, fun fc z hz => s.2 fc z (by omega)⟩
theorem CSeg.cast {f : Nat → Int32} {a b b' h : Nat} {V W : (Nat → Int32) → Int32} (s : CSeg f a b h V) (e : b = b') (e2 : V = W) : CSeg f a b' h W := by subst e; subst e2; exact s
theorem CSeg.push {f : Nat → Int32} {a : Nat} {V : (Nat → Int32) → Int32} (hx : -8 ≤ (f a).toInt) (hv : ∀ fc : Nat → Int32, (if 0 ≤ (f a).toInt then f a else fc (-1 - (f a).toInt).toNat) = V fc) : CSeg f a (a + 1) 1 V := ⟨by omega, fun fc z hz => by
  rw [show a + 1 - a = 1 from (by omega)]
  have e : crun fc f 1 a z = (z.1 + 1, upd z.2 z.1 (V fc)) := by
    show cst fc (f a) z = _
    unfold cst
    rw [if_pos hx, if_pos (by omega), hv fc]
  rw [e]
  exact ⟨rfl, pk_us, fun j hj => pk_un (by omega)⟩⟩
theorem CSeg.num {f : Nat → Int32} {a : Nat} {x : Int32} (e : f a = x) (hx : 0 ≤ x.toInt) : CSeg f a (a + 1) 1 (fun _ => x) := CSeg.push (by rw [e]; omega) (fun fc => by rw [e, if_pos hx])
theorem CSeg.fct {f : Nat → Int32} {a k : Nat} (e : (f a).toInt = -1 - (k : Int)) (hk : k < 8) : CSeg f a (a + 1) 1 (fun fc => fc k) := CSeg.push (by omega) (fun fc => by rw [if_neg (by omega), e, show (-1 - (-1 - (k : Int))).toNat = k from (by omega)])
theorem CSeg.neg {f : Nat → Int32} {a b h : Nat} {V : (Nat → Int32) → Int32} (s : CSeg f a b h V) (e : (f b).toInt = -9) : CSeg f a (b + 1) h (fun fc => if V fc = 0 then 1 else 0) := ⟨by have := s.1; omega, fun fc z hz => by
  have g := s.1
  rw [show b + 1 - a = (b - a) + 1 from (by omega), crun_add, show a + (b - a) = b from (by omega)]
  obtain ⟨h1, h2, h3⟩ := s.2 fc z hz
  have e1 : crun fc f 1 b (crun fc f (b - a) a z) = ((crun fc f (b - a) a z).1, upd (crun fc f (b - a) a z).2 z.1 (if V fc = 0 then 1 else 0)) := by
    show cst fc (f b) _ = _
    unfold cst
    rw [if_neg (by omega), if_pos e, if_pos (by omega), h1, show z.1 + 1 - 1 = z.1 from (by omega), h2]
  rw [e1]
  exact ⟨h1, pk_us, fun j hj => (pk_un (by omega)).trans (h3 j hj)⟩⟩
theorem CSeg.bin {f : Nat → Int32} {a b c h k : Nat} {V W : (Nat → Int32) → Int32} {x : Int} (s : CSeg f a b h V) (t : CSeg f b c k W) (e : (f c).toInt = x) (hx : x < -9) (hh : h ≤ k + 1) : CSeg f a (c + 1) (k + 1) (fun fc => jn6 x (V fc) (W fc)) := ⟨by have := s.1; have := t.1; omega, fun fc z hz => by
  have g1 := s.1
  have g2 := t.1
  rw [show c + 1 - a = (b - a) + ((c - b) + 1) from (by omega), crun_add, show a + (b - a) = b from (by omega), crun_add, show b + (c - b) = c from (by omega)]
  obtain ⟨h1, h2, h3⟩ := s.2 fc z (by omega)
  obtain ⟨i1, i2, i3⟩ := t.2 fc (crun fc f (b - a) a z) (by omega)
  have j1 : (crun fc f (c - b) b (crun fc f (b - a) a z)).2 z.1 = V fc := (i3 z.1 (by omega)).trans h2
  rw [h1] at i1 i2
  have e1 : crun fc f 1 c (crun fc f (c - b) b (crun fc f (b - a) a z)) = (z.1 + 1, upd (crun fc f (c - b) b (crun fc f (b - a) a z)).2 z.1 (jn6 x (V fc) (W fc))) := by
    show cst fc (f c) _ = _
    unfold cst
    rw [if_neg (by omega), if_neg (by omega), if_pos (by omega), i1, show z.1 + 1 + 1 - 1 = z.1 + 1 from (by omega), show z.1 + 1 + 1 - 2 = z.1 from (by omega), j1, i2, e]
  rw [e1]
  exact ⟨rfl, pk_us, fun j hj => (pk_un (by omega)).trans ((i3 j (by omega)).trans (h3 j hj))⟩⟩
/-- the reference's code -/
def bth (c a b : Int32) : Int32 := if c = 4 then a + b else if c = 5 then a - b else if c = 6 then a * b else if c = 7 then (if a < b then 1 else 0) else if c = 8 then (if a = b then 1 else 0) else if c = 9 then (if ¬ a = 0 ∧ ¬ b = 0 then 1 else 0) else (if ¬ a = 0 ∨ ¬ b = 0 then 1 else 0)
theorem bj (a b : Int32) : bth 4 a b = jn6 (-14) a b ∧ bth 5 a b = jn6 (-15) a b ∧ bth 6 a b = jn6 (-16) a b ∧ bth 7 a b = jn6 (-12) a b ∧ bth 8 a b = jn6 (-13) a b ∧ bth 9 a b = jn6 (-10) a b ∧ bth 10 a b = jn6 (-11) a b := ⟨rfl, rfl, rfl, rfl, rfl, rfl, rfl⟩
def mcs (fs : Nat → Int32) (c a : Int32) (z : Nat × (Nat → Int32)) : Nat × (Nat → Int32) :=
  if c = 1 then (z.1 + 1, upd z.2 z.1 a) else if c = 2 then (z.1 + 1, upd z.2 z.1 (fs a.toInt.toNat)) else if c = 3 then (z.1, upd z.2 (z.1 - 1) (if z.2 (z.1 - 1) = 0 then 1 else 0)) else (z.1 - 1, upd z.2 (z.1 - 2) (bth c (z.2 (z.1 - 2)) (z.2 (z.1 - 1))))
def mrun (fs o a : Nat → Int32) : Nat → Nat → Nat × (Nat → Int32) → Nat × (Nat → Int32)
  | 0, _, z => z
  | k + 1, i, z => mrun fs o a k (i + 1) (mcs fs (o i) (a i) z)
theorem mrun_add {fs o a : Nat → Int32} {m : Nat} : ∀ (n i : Nat) (z : Nat × (Nat → Int32)), mrun fs o a (n + m) i z = mrun fs o a m (i + n) (mrun fs o a n i z) := by
  intro n
  induction n with
  | zero => intro i z; rw [Nat.zero_add]; rfl
  | succ n ih =>
    intro i z
    rw [Nat.succ_add]
    show mrun fs o a (n + m) (i + 1) (mcs fs (o i) (a i) z) = mrun fs o a m (i + (n + 1)) (mrun fs o a n (i + 1) (mcs fs (o i) (a i) z))
    rw [ih (i + 1), show i + 1 + n = i + (n + 1) from (by omega)]
theorem mrun_cong {fs o a o' a' : Nat → Int32} {d : Nat} : ∀ (n i : Nat) (z : Nat × (Nat → Int32)), (∀ j, i ≤ j → j < i + n → o' (j + d) = o j ∧ a' (j + d) = a j) → mrun fs o' a' n (i + d) z = mrun fs o a n i z := by
  intro n
  induction n with
  | zero => intro i z _; rfl
  | succ n ih =>
    intro i z h
    show mrun fs o' a' n (i + d + 1) (mcs fs (o' (i + d)) (a' (i + d)) z) = mrun fs o a n (i + 1) (mcs fs (o i) (a i) z)
    rw [(h i (Nat.le_refl i) (by omega)).1, (h i (Nat.le_refl i) (by omega)).2, show i + d + 1 = i + 1 + d from (by omega)]
    exact ih (i + 1) _ (fun j h1 h2 => h j (by omega) (by omega))
def MSeg (o a : Nat → Int32) (i j : Nat) (V : (Nat → Int32) → Int32) : Prop := i ≤ j ∧ (∀ t, i ≤ t → t < j → ¬ o t = 0) ∧ ∀ (fs : Nat → Int32) (z : Nat × (Nat → Int32)), LV1 z (mrun fs o a (j - i) i z) (V fs)
theorem MSeg.frame {o a o' a' : Nat → Int32} {i j : Nat} {V : (Nat → Int32) → Int32} (s : MSeg o a i j V) (h1 : ∀ t, t < j → o' t = o t) (h2 : ∀ t, t < j → a' t = a t) : MSeg o' a' i j V := ⟨s.1, fun t t1 t2 => by rw [h1 t t2]; exact s.2.1 t t1 t2, fun fs z => by
  have g := s.1
  have e : mrun fs o' a' (j - i) i z = mrun fs o a (j - i) i z := mrun_cong (d := 0) (j - i) i z (fun t t1 t2 => ⟨h1 t (by omega), h2 t (by omega)⟩)
  rw [e]; exact s.2.2 fs z⟩
theorem MSeg.shift {o a o' a' : Nat → Int32} {i j d : Nat} {V : (Nat → Int32) → Int32} (s : MSeg o a (i + d) (j + d) V) (h1 : ∀ t, i ≤ t → t < j → o' t = o (t + d)) (h2 : ∀ t, i ≤ t → t < j → a' t = a (t + d)) : MSeg o' a' i j V := ⟨by have := s.1; omega, fun t t1 t2 => by rw [h1 t t1 t2]; exact s.2.1 (t + d) (by omega) (by omega), fun fs z => by
  have g := s.1
  have e : mrun fs o a (j - i) (i + d) z = mrun fs o' a' (j - i) i z := mrun_cong (d := d) (j - i) i z (fun t t1 t2 => ⟨(h1 t t1 (by omega)).symm, (h2 t t1 (by omega)).symm⟩)
  have h := s.2.2 fs z
  rw [show j + d - (i + d) = j - i from (by omega), e] at h
  exact h⟩
theorem MSeg.cast {o a : Nat → Int32} {i j j' : Nat} {V W : (Nat → Int32) → Int32} (s : MSeg o a i j V) (e : j = j') (e2 : V = W) : MSeg o a i j' W := by subst e; subst e2; exact s
theorem MSeg.num {o a : Nat → Int32} {i : Nat} {x : Int32} (h : o i = 1) (e : a i = x) : MSeg o a i (i + 1) (fun _ => x) := ⟨by omega, fun t t1 t2 => by rw [show t = i by omega, h]; decide, fun fs z => by
  rw [show i + 1 - i = 1 from (by omega)]
  have e1 : mrun fs o a 1 i z = (z.1 + 1, upd z.2 z.1 x) := by
    show mcs fs (o i) (a i) z = _
    unfold mcs
    rw [if_pos h, e]
  rw [e1]
  exact ⟨rfl, pk_us, fun j hj => pk_un (by omega)⟩⟩
theorem MSeg.fct {o a : Nat → Int32} {i k : Nat} {x : Int32} (h : o i = 2) (e : a i = x) (hk : x.toInt.toNat = k) : MSeg o a i (i + 1) (fun fc => fc k) := ⟨by omega, fun t t1 t2 => by rw [show t = i by omega, h]; decide, fun fs z => by
  rw [show i + 1 - i = 1 from (by omega)]
  have e1 : mrun fs o a 1 i z = (z.1 + 1, upd z.2 z.1 (fs k)) := by
    show mcs fs (o i) (a i) z = _
    unfold mcs
    rw [if_neg (by rw [h]; decide), if_pos h, e, hk]
  rw [e1]
  exact ⟨rfl, pk_us, fun j hj => pk_un (by omega)⟩⟩
theorem MSeg.neg {o a : Nat → Int32} {i j : Nat} {V : (Nat → Int32) → Int32} (s : MSeg o a i j V) (h : o j = 3) : MSeg o a i (j + 1) (fun fc => if V fc = 0 then 1 else 0) := ⟨by have := s.1; omega, fun t t1 t2 => by
  by_cases q : t < j
  · exact s.2.1 t t1 q
  · rw [show t = j by omega, h]; decide, fun fs z => by
  have g := s.1
  rw [show j + 1 - i = (j - i) + 1 from (by omega), mrun_add, show i + (j - i) = j from (by omega)]
  obtain ⟨h1, h2, h3⟩ := s.2.2 fs z
  have e1 : mrun fs o a 1 j (mrun fs o a (j - i) i z) = ((mrun fs o a (j - i) i z).1, upd (mrun fs o a (j - i) i z).2 z.1 (if V fs = 0 then 1 else 0)) := by
    show mcs fs (o j) (a j) _ = _
    unfold mcs
    rw [if_neg (by rw [h]; decide), if_neg (by rw [h]; decide), if_pos h, h1, show z.1 + 1 - 1 = z.1 from (by omega), h2]
  rw [e1]
  exact ⟨h1, pk_us, fun t ht => (pk_un (by omega)).trans (h3 t ht)⟩⟩
theorem MSeg.bin {o a : Nat → Int32} {i j k : Nat} {V W : (Nat → Int32) → Int32} {c : Int32} {x : Int} (s : MSeg o a i j V) (t : MSeg o a j k W) (h : o k = c) (hc : 4 ≤ c.toInt) (hx : ∀ u v, bth c u v = jn6 x u v) : MSeg o a i (k + 1) (fun fc => jn6 x (V fc) (W fc)) := ⟨by have := s.1; have := t.1; omega, fun y y1 y2 => by
  by_cases q : y < j
  · exact s.2.1 y y1 q
  · by_cases q2 : y < k
    · exact t.2.1 y (by omega) q2
    · rw [show y = k by omega, h]; intro e; rw [e] at hc; exact absurd hc (by decide), fun fs z => by
  have g1 := s.1
  have g2 := t.1
  rw [show k + 1 - i = (j - i) + ((k - j) + 1) from (by omega), mrun_add, show i + (j - i) = j from (by omega), mrun_add, show j + (k - j) = k from (by omega)]
  obtain ⟨h1, h2, h3⟩ := s.2.2 fs z
  obtain ⟨i1, i2, i3⟩ := t.2.2 fs (mrun fs o a (j - i) i z)
  have j1 : (mrun fs o a (k - j) j (mrun fs o a (j - i) i z)).2 z.1 = V fs := (i3 z.1 (by omega)).trans h2
  rw [h1] at i1 i2
  have n1 : ¬ c = 1 := fun e => by rw [e] at hc; exact absurd hc (by decide)
  have n2 : ¬ c = 2 := fun e => by rw [e] at hc; exact absurd hc (by decide)
  have n3 : ¬ c = 3 := fun e => by rw [e] at hc; exact absurd hc (by decide)
  have e1 : mrun fs o a 1 k (mrun fs o a (k - j) j (mrun fs o a (j - i) i z)) = (z.1 + 1, upd (mrun fs o a (k - j) j (mrun fs o a (j - i) i z)).2 z.1 (jn6 x (V fs) (W fs))) := by
    show mcs fs (o k) (a k) _ = _
    unfold mcs
    rw [h, if_neg n1, if_neg n2, if_neg n3, i1, show z.1 + 1 + 1 - 1 = z.1 + 1 from (by omega), show z.1 + 1 + 1 - 2 = z.1 from (by omega), j1, i2, hx]
  rw [e1]
  exact ⟨rfl, pk_us, fun t ht => (pk_un (by omega)).trans ((i3 t (by omega)).trans (h3 t ht))⟩⟩
/-- whether one MAY stand on another: n nests of the worths E, over the facts fc; wl: it is less wide; tp: that is a top -/
def alE (E : Nat → (Nat → Int32) → Int32) (fc : Nat → Int32) : Nat → Bool
  | 0 => true
  | n + 1 => alE E fc n && !decide (E n fc = 0)
theorem alE_iff {E : Nat → (Nat → Int32) → Int32} {fc : Nat → Int32} : ∀ n, alE E fc n = true ↔ ∀ i, i < n → ¬ E i fc = 0 := by
  intro n
  induction n with
  | zero => exact ⟨fun _ i hi => absurd hi (Nat.not_lt_zero i), fun _ => rfl⟩
  | succ n ih =>
    show (alE E fc n && !decide (E n fc = 0)) = true ↔ _
    rw [Bool.and_eq_true, ih]
    constructor
    · rintro ⟨h1, h2⟩ i hi e
      rcases Nat.lt_or_ge i n with q | q
      · exact h1 i q e
      · have ei : i = n := by omega
        rw [ei] at e
        rw [decide_eq_true e] at h2; exact absurd h2 (by decide)
    · intro h
      refine ⟨fun i hi => h i (by omega), ?_⟩
      rw [decide_eq_false (h n (by omega))]; rfl
def mayP (n : Nat) (E : Nat → (Nat → Int32) → Int32) (fc : Nat → Int32) (wl tp : Bool) : Bool := !tp && (if n = 0 then wl else alE E fc n)

theorem crun_snoc {fc f : Nat → Int32} {k i : Nat} {z y : Nat × (Nat → Int32)} {x : Int32} (h : crun fc f k i z = y) (hx : f (i + k) = x) : crun fc f (k + 1) i z = cst fc x y := by rw [crun_add, h, ← hx]; rfl
theorem cst_num {fc : Nat → Int32} {x : Int32} {n n' : Nat} {g g' : Nat → Int32} (h0 : 0 ≤ x.toInt) (h1 : n < 32) (hn : n' = n + 1) (hg : g' = upd g n x) : cst fc x (n, g) = (n', g') := by
  show (if -8 ≤ x.toInt then (if n < 32 then (n + 1, upd g n (if 0 ≤ x.toInt then x else fc (-1 - x.toInt).toNat)) else (n, g)) else _) = _
  rw [if_pos (show -8 ≤ x.toInt by omega), if_pos h1, if_pos h0, hn, hg]
theorem cst_fct {fc : Nat → Int32} {x v : Int32} {n n' : Nat} {g g' : Nat → Int32} (h0 : x.toInt < 0) (h8 : -8 ≤ x.toInt) (h1 : n < 32) (hn : n' = n + 1) (hv : v = fc (-1 - x.toInt).toNat) (hg : g' = upd g n v) : cst fc x (n, g) = (n', g') := by
  show (if -8 ≤ x.toInt then (if n < 32 then (n + 1, upd g n (if 0 ≤ x.toInt then x else fc (-1 - x.toInt).toNat)) else (n, g)) else _) = _
  rw [if_pos h8, if_pos h1, if_neg (show ¬ 0 ≤ x.toInt by omega), hn, hg, hv]
theorem cst_full {fc : Nat → Int32} {x : Int32} {n n' : Nat} {g : Nat → Int32} (h8 : -8 ≤ x.toInt) (h1 : 32 ≤ n) (hn : n' = n) : cst fc x (n, g) = (n', g) := by
  show (if -8 ≤ x.toInt then (if n < 32 then (n + 1, upd g n (if 0 ≤ x.toInt then x else fc (-1 - x.toInt).toNat)) else (n, g)) else _) = _
  rw [if_pos h8, if_neg (show ¬ n < 32 by omega), hn]
theorem cst_neg {fc : Nat → Int32} {x v r : Int32} {n n' m : Nat} {g g' : Nat → Int32} (h : x.toInt = -9) (h1 : 1 ≤ n) (hn : n' = n) (hm : m = n - 1) (hr : g m = r) (hv : v = if r = 0 then 1 else 0) (hg : g' = upd g m v) : cst fc x (n, g) = (n', g') := by
  show (if -8 ≤ x.toInt then _ else if x.toInt = -9 then (if 1 ≤ n then (n, upd g (n - 1) (if g (n - 1) = 0 then 1 else 0)) else (n, g)) else _) = _
  rw [if_neg (show ¬ -8 ≤ x.toInt by omega), if_pos h, if_pos h1, hn, hg, hv, ← hr, hm]
theorem cst_neg0 {fc : Nat → Int32} {x : Int32} {n n' : Nat} {g : Nat → Int32} (h : x.toInt = -9) (h1 : n < 1) (hn : n' = n) : cst fc x (n, g) = (n', g) := by
  show (if -8 ≤ x.toInt then _ else if x.toInt = -9 then (if 1 ≤ n then (n, upd g (n - 1) (if g (n - 1) = 0 then 1 else 0)) else (n, g)) else _) = _
  rw [if_neg (show ¬ -8 ≤ x.toInt by omega), if_pos h, if_neg (show ¬ 1 ≤ n by omega), hn]
theorem cst_bin {fc : Nat → Int32} {x v : Int32} {n n' m k : Nat} {g g' : Nat → Int32} (h : x.toInt < -9) (h1 : 2 ≤ n) (hn : n' = n - 1) (hm : m = n - 2) (hk : k = n - 1) (hv : v = jn6 x.toInt (g m) (g k)) (hg : g' = upd g m v) : cst fc x (n, g) = (n', g') := by
  show (if -8 ≤ x.toInt then _ else if x.toInt = -9 then _ else if 2 ≤ n then (n - 1, upd g (n - 2) (jn6 x.toInt (g (n - 2)) (g (n - 1)))) else (n, g)) = _
  rw [if_neg (show ¬ -8 ≤ x.toInt by omega), if_neg (show ¬ x.toInt = -9 by omega), if_pos h1, hn, hg, hv, hm, hk]
theorem cst_bin0 {fc : Nat → Int32} {x : Int32} {n n' : Nat} {g : Nat → Int32} (h : x.toInt < -9) (h1 : n < 2) (hn : n' = n) : cst fc x (n, g) = (n', g) := by
  show (if -8 ≤ x.toInt then _ else if x.toInt = -9 then _ else if 2 ≤ n then (n - 1, upd g (n - 2) (jn6 x.toInt (g (n - 2)) (g (n - 1)))) else (n, g)) = _
  rw [if_neg (show ¬ -8 ≤ x.toInt by omega), if_neg (show ¬ x.toInt = -9 by omega), if_neg (show ¬ 2 ≤ n by omega), hn]
/-- one place of a row is new -/
def AD1 (f g : Nat → Int32) (n : Nat) (x : Int32) : Prop := (∀ j : Nat, ¬ j = n → g j = f j) ∧ g n = x
/-- the facts of two wares, by what is told -/
def fcC (wd dp wt : Nat → Int32) (lids : Int32) (u l : Nat) : Nat → Int32 := fun k => if k = 0 then wd u else if k = 1 then wd l else if k = 2 then dp u else if k = 3 then dp l else if k = 4 then wt u else if k = 5 then wt l else if k = 6 then (if BT lids u = true then 1 else 0) else (if BT lids l = true then 1 else 0)
theorem bt_rd32 {x k : Int32} (h0 : 0 ≤ k.toInt) (h1 : k.toInt < 32) : ((x.toUInt32 >>> (k.toUInt32 &&& Int32.toUInt32 31)).toInt32 &&& 1) = if BT x k.toInt.toNat = true then 1 else 0 := by
  apply (i_eq _ _).mpr
  rw [bt_rd h0 h1]
  by_cases b : BT x k.toInt.toNat = true
  · rw [if_pos b, if_pos b]; rfl
  · rw [if_neg b, if_neg b]; rfl
/-- the rows of the nests -/
def sC (en : Nat → Int32) (i : Nat) : Nat := if i = 0 then 0 else (en (i - 1)).toInt.toNat
def CE0 (f en : Nat → Int32) (n : Int) (E : (Nat → (Nat → Int32) → Int32)) : Prop := ∀ i : Nat, (i : Int) < n → CSeg f (sC en i) (en i).toInt.toNat 25 (E i)
theorem mayP_iff {n : Nat} {E : (Nat → (Nat → Int32) → Int32)} {fc : Nat → Int32} {wl tp : Bool} : mayP n E fc wl tp = true ↔ tp = false ∧ (n = 0 → wl = true) ∧ (∀ i, i < n → ¬ E i fc = 0) := by
  unfold mayP
  rw [Bool.and_eq_true, Bool.not_eq_true']
  constructor
  · rintro ⟨h1, h2⟩
    refine ⟨h1, fun h => ?_, fun i hi => ?_⟩
    · rw [if_pos h] at h2; exact h2
    · rw [if_neg (show ¬ n = 0 by omega)] at h2; exact (alE_iff n).mp h2 i hi
  · rintro ⟨h1, h2, h3⟩
    refine ⟨h1, ?_⟩
    by_cases q : n = 0
    · rw [if_pos q]; exact h2 q
    · rw [if_neg q]; exact (alE_iff n).mpr h3
/-- whether u MAY stand on l, by what is told; a table of that under way -/
def mayC (w n : Int) (E : (Nat → (Nat → Int32) → Int32)) (wd dp wt : Nat → Int32) (lids tops : Int32) (l u : Nat) : Bool := decide ((l : Int) < w ∧ (u : Int) < w ∧ ¬ u = l) && mayP n.toNat E (fcC wd dp wt lids u l) (decide ((wd u).toInt < (wd l).toInt)) (BT tops l)
theorem mayC_lt {w n : Int} {E : (Nat → (Nat → Int32) → Int32)} {wd dp wt : Nat → Int32} {lids tops : Int32} {l u : Nat} (h : mayC w n E wd dp wt lids tops l u = true) : (l : Int) < w ∧ (u : Int) < w := by
  unfold mayC at h
  rw [Bool.and_eq_true] at h
  have := of_decide_eq_true h.1
  exact ⟨this.1, this.2.1⟩
def MYI (f : Nat → Int32) (M : Nat → Nat → Bool) (a b : Int) : Prop := ∀ l u : Nat, l < 12 → u < 12 → BT (f l) u = (decide ((l : Int) < a ∨ ((l : Int) = a ∧ (u : Int) < b)) && M l u)
theorem MYI.zero {M : Nat → Nat → Bool} {a b : Int} (ha : a = 0) (hb : b = 0) : MYI (fun _ => 0) M a b := fun l u _ hu => by
  rw [decide_eq_false (by omega), Bool.false_and]; exact bt_z u (by omega)
theorem MYI.row {f : Nat → Int32} {M : Nat → Nat → Bool} {a b a' b' w : Int} (h : MYI f M a b) (hw : w ≤ b) (hM : ∀ l u, M l u = true → (u : Int) < w) (ha : a' = a + 1) (hb : b' = 0) : MYI f M a' b' := fun l u hl hu => by
  rw [h l u hl hu]
  by_cases m : M l u = true
  · have := hM l u m
    congr 1
    by_cases q : (l : Int) < a ∨ ((l : Int) = a ∧ (u : Int) < b)
    · rw [decide_eq_true q, decide_eq_true (by omega)]
    · rw [decide_eq_false q, decide_eq_false (by omega)]
  · rw [Bool.eq_false_iff.mpr m, Bool.and_false, Bool.and_false]
theorem MYI.skip {f : Nat → Int32} {M : Nat → Nat → Bool} {a b b' : Int} (h : MYI f M a b) (h0 : 0 ≤ a) (h1 : 0 ≤ b) (hb : b' = b + 1) (hM : M a.toNat b.toNat = false) : MYI f M a b' := fun l u hl hu => by
  rw [h l u hl hu]
  by_cases m : M l u = true
  · have n : ¬ (l = a.toNat ∧ u = b.toNat) := fun z => by rw [z.1, z.2, hM] at m; exact absurd m (by decide)
    congr 1
    by_cases q : (l : Int) < a ∨ ((l : Int) = a ∧ (u : Int) < b)
    · rw [decide_eq_true q, decide_eq_true (by omega)]
    · rw [decide_eq_false q, decide_eq_false (by omega)]
  · rw [Bool.eq_false_iff.mpr m, Bool.and_false, Bool.and_false]
theorem MYI.set {f g : Nat → Int32} {M : Nat → Nat → Bool} {a b b' : Int} {k : Int32} (h : MYI f M a b) (h0 : 0 ≤ a) (h1 : 0 ≤ b) (h2 : b < 12) (hk : k.toInt = b) (hb : b' = b + 1) (hM : M a.toNat b.toNat = true) (hg : g = upd f a.toNat (f a.toNat ||| ((1 : Int32) <<< (k &&& 31)))) : MYI g M a b' := fun l u hl hu => by
  by_cases e : l = a.toNat
  · rw [hg, e, pk_us, bt_or (by omega) (by omega) hu, hk]
    have h3 := h a.toNat u (by omega) hu
    rw [h3]
    by_cases e2 : u = b.toNat
    · rw [e2, hM, decide_eq_true (show b.toNat = b.toNat from rfl), Bool.or_true, Bool.and_true]
      exact (decide_eq_true (by omega)).symm
    · rw [decide_eq_false e2, Bool.or_false]
      congr 1
      by_cases q : ((a.toNat : Nat) : Int) < a ∨ (((a.toNat : Nat) : Int) = a ∧ (u : Int) < b)
      · rw [decide_eq_true q, decide_eq_true (by omega)]
      · rw [decide_eq_false q, decide_eq_false (by omega)]
  · rw [hg, pk_un e, h l u hl hu]
    congr 1
    by_cases q : (l : Int) < a ∨ ((l : Int) = a ∧ (u : Int) < b)
    · rw [decide_eq_true q, decide_eq_true (by omega)]
    · rw [decide_eq_false q, decide_eq_false (by omega)]
/-- what the class has found, in the end -/
def MYC (f : Nat → Int32) (M : Nat → Nat → Bool) : Prop := ∀ l u : Nat, l < 12 → u < 12 → BT (f l) u = M l u
theorem MYI.fin {f : Nat → Int32} {M : Nat → Nat → Bool} {a b w : Int} (h : MYI f M a b) (hw : w ≤ a) (hM : ∀ l u, M l u = true → (l : Int) < w) : MYC f M := fun l u hl hu => by
  rw [h l u hl hu]
  by_cases m : M l u = true
  · have := hM l u m
    rw [decide_eq_true (by omega), Bool.true_and]
  · rw [Bool.eq_false_iff.mpr m, Bool.and_false]
/-- what stands behind a nest, behind a statement, in the end -/
def updE (E : (Nat → (Nat → Int32) → Int32)) (n : Nat) (V : (Nat → Int32) → Int32) : (Nat → (Nat → Int32) → Int32) := fun i => if i = n then V else E i
def eNest (T : Nat → Int × Int64 × Nat) (S : ((Nat → Int64) × Nat × (Nat → Int64) × Nat × (Nat → Bool) × (Nat → Bool) × Nat)) (E : (Nat → (Nat → Int32) → Int32)) (p : Nat) : (Nat → (Nat → Int32) → Int32) := updE E S.2.2.2.2.2.2 (vLv T (rPt T 5) (vPt T 5) 4 (nx T p))
def eLine (T : Nat → Int × Int64 × Nat) (S : ((Nat → Int64) × Nat × (Nat → Int64) × Nat × (Nat → Bool) × (Nat → Bool) × Nat)) (E : (Nat → (Nat → Int32) → Int32)) (p : Nat) : (Nat → (Nat → Int32) → Int32) := if isW T p (WN 0) = true then E else if isW T p (WN 1) = true then E else if isW T p (WN 2) = true then E else if isW T p (WN 3) = true then E else if isW T p (WN 4) = true then E else eNest T S E p
def E0 : (Nat → (Nat → Int32) → Int32) := fun _ _ => 0
def eFin (T : Nat → Int × Int64 × Nat) : Nat → ((Nat → Int64) × Nat × (Nat → Int64) × Nat × (Nat → Bool) × (Nat → Bool) × Nat) → (Nat → (Nat → Int32) → Int32) → Nat → (Nat → (Nat → Int32) → Int32)
  | 0, _, E, _ => E
  | k + 1, S, E, p => if (T p).1 = 0 then E else if (rStm T S p).2 = 0 then eFin T k (sLine T S p) (eLine T S E p) (rStm T S p).1 else E
theorem eFin_end {T : Nat → Int × Int64 × Nat} {S : ((Nat → Int64) × Nat × (Nat → Int64) × Nat × (Nat → Bool) × (Nat → Bool) × Nat)} {E : (Nat → (Nat → Int32) → Int32)} {p : Nat} (h : (T p).1 = 0) : ∀ k, eFin T k S E p = E
  | 0 => rfl
  | _ + 1 => if_pos h
theorem eFin_ok {T : Nat → Int × Int64 × Nat} {S : ((Nat → Int64) × Nat × (Nat → Int64) × Nat × (Nat → Bool) × (Nat → Bool) × Nat)} {E : (Nat → (Nat → Int32) → Int32)} {p q : Nat} {k : Nat} (h : ¬ (T p).1 = 0) (h2 : rStm T S p = (q, 0)) : eFin T (k + 1) S E p = eFin T k (sLine T S p) (eLine T S E p) q := by
  show (if (T p).1 = 0 then E else if (rStm T S p).2 = 0 then eFin T k (sLine T S p) (eLine T S E p) (rStm T S p).1 else E) = _
  rw [if_neg h, h2]; exact if_pos rfl
def cupE (f : Nat → Int32) (n : Nat) : (Nat → (Nat → Int32) → Int32) := eFin (TKS f n) 1000 S0 E0 (tP f n 0)
theorem cupE_cong {f g : Nat → Int32} {n : Nat} (hg : ∀ j : Nat, j < n → g j = f j) : cupE g n = cupE f n := by unfold cupE; rw [TKS_cong hg, tP_cong hg]
/-- the class's nests: their rows of steps, how many, how many steps in all -/
def CE (f en : Nat → Int32) (n sz nn : Int) (E : (Nat → (Nat → Int32) → Int32)) : Prop := CE0 f en n E ∧ (∀ i : Nat, (i : Int) < n → (en i).toInt ≤ sz) ∧ (n = 0 → sz = 0) ∧ (0 < n → (en (n - 1).toNat).toInt = sz) ∧ n = nn
def CG (f g : Nat → Int32) (a b h : Nat) (V : (Nat → Int32) → Int32) : Prop := (∀ j, j < a → g j = f j) ∧ CSeg g a b h V
theorem CE.nest {f g en en' : Nat → Int32} {n sz nn n' sz' nn' : Int} {e : Int32} {S : ((Nat → Int64) × Nat × (Nat → Int64) × Nat × (Nat → Bool) × (Nat → Bool) × Nat)} {E : (Nat → (Nat → Int32) → Int32)} {T : Nat → Int × Int64 × Nat} {p : Nat} (h : CE f en n sz nn E) (h0 : 0 ≤ n) (hs : 0 ≤ sz) (hz : sz ≤ sz') (hS : nn = ((S.2.2.2.2.2.2 : Nat) : Int)) (hg : CG f g sz.toNat sz'.toNat 25 (vLv T (rPt T 5) (vPt T 5) 4 (nx T p))) (ha : AD1 en en' n.toNat e) (he : e.toInt = sz') (hn : n' = n + 1) (hnn : nn' = nn + 1) : CE g en' n' sz' nn' (eNest T S E p) := by
  obtain ⟨a, b, c, d, q⟩ := h
  obtain ⟨g1, g2⟩ := hg
  have en0 : n.toNat = S.2.2.2.2.2.2 := by omega
  have old : ∀ i : Nat, (i : Int) < n → en' i = en i := fun i hi => ha.1 i (by omega)
  refine ⟨fun i hi => ?_, fun i hi => ?_, fun z => by omega, fun _ => ?_, by omega⟩
  · show CSeg g (sC en' i) (en' i).toInt.toNat 25 (updE E S.2.2.2.2.2.2 _ i)
    unfold updE
    by_cases z : i = S.2.2.2.2.2.2
    · rw [if_pos z, z, ← en0, ha.2, he]
      have e1 : sC en' n.toNat = sz.toNat := by
        unfold sC
        by_cases z0 : n.toNat = 0
        · rw [if_pos z0]; have := c (by omega); omega
        · rw [if_neg z0, old _ (by omega)]
          have := d (by omega)
          rw [show n.toNat - 1 = (n - 1).toNat by omega, this]
      rw [e1]; exact g2
    · rw [if_neg z]
      have hi2 : (i : Int) < n := by omega
      have e1 : sC en' i = sC en i := by
        unfold sC
        by_cases z0 : i = 0
        · rw [if_pos z0, if_pos z0]
        · rw [if_neg z0, if_neg z0, old _ (by omega)]
      rw [e1, old i hi2]
      exact (a i hi2).frame (fun j hj => g1 j (by have := b i hi2; omega))
  · by_cases z : (i : Int) < n
    · rw [old i z]; have := b i z; omega
    · rw [show i = n.toNat by omega, ha.2]; omega
  · rw [show (n' - 1).toNat = n.toNat by omega, ha.2]; exact he
theorem CE.zero {f en : Nat → Int32} {n sz nn : Int} (hn : n = 0) (hs : sz = 0) (hnn : nn = 0) : CE f en n sz nn E0 := ⟨fun i hi => absurd hi (by omega), fun i hi => absurd hi (by omega), fun _ => hs, fun h => absurd h (by omega), by omega⟩

theorem CG.cast {f g : Nat → Int32} {a b b' h k : Nat} {V W : (Nat → Int32) → Int32} (s : CG f g a b h V) (hk : h ≤ k) (e : b = b') (e2 : W = V) : CG f g a b' k W := by subst e; subst e2; exact ⟨s.1, s.2.mono hk⟩
theorem CG.num {f g : Nat → Int32} {a b h : Nat} {x : Int32} {W : (Nat → Int32) → Int32} (s : AD1 f g a x) (hx : 0 ≤ x.toInt) (h1 : 1 ≤ h) (e : a + 1 = b) (e2 : W = fun _ => x) : CG f g a b h W := by subst e; subst e2; exact ⟨fun j hj => s.1 j (by omega), (CSeg.num s.2 hx).mono h1⟩
theorem CG.fct {f g : Nat → Int32} {a b h k : Nat} {x : Int32} {W : (Nat → Int32) → Int32} (s : AD1 f g a x) (hx : x.toInt = -1 - (k : Int)) (hk : k < 8) (h1 : 1 ≤ h) (e : a + 1 = b) (e2 : W = fun fc => fc k) : CG f g a b h W := by subst e; subst e2; exact ⟨fun j hj => s.1 j (by omega), (CSeg.fct (by rw [s.2]; exact hx) hk).mono h1⟩
theorem CG.neg {f g g' : Nat → Int32} {a b c h k : Nat} {x : Int32} {V W : (Nat → Int32) → Int32} (s : CG f g a b h V) (ha : AD1 g g' b x) (hx : x.toInt = -9) (hk : h ≤ k) (e : b + 1 = c) (e2 : W = fun fc => if V fc = 0 then 1 else 0) : CG f g' a c k W := by
  subst e; subst e2
  have g1 := s.2.1
  exact ⟨fun j hj => (ha.1 j (by omega)).trans (s.1 j hj), ((s.2.frame (fun j hj => ha.1 j (by omega))).neg (by rw [ha.2]; exact hx)).mono hk⟩
theorem vPt_open {T : Nat → Int × Int64 × Nat} {d p : Nat} (h : isG T p 40 = true) : vPt T (d + 1) p = vLv T (rPt T d) (vPt T d) 4 (nx T p) := funext fun fc => by
  show (if isG T p 40 = true then _ else _) = _
  rw [if_pos h]
theorem vPt_not {T : Nat → Int × Int64 × Nat} {d p : Nat} (h : ¬ isG T p 40 = true) (h2 : isW T p (WN 14) = true) : vPt T (d + 1) p = fun fc => if vPt T d (nx T p) fc = 0 then 1 else 0 := funext fun fc => by
  show (if isG T p 40 = true then _ else if isW T p (WN 14) = true then _ else _) = _
  rw [if_neg h, if_pos h2]
theorem vPt_num {T : Nat → Int × Int64 × Nat} {d p : Nat} (h : ¬ isG T p 40 = true) (h2 : ¬ isW T p (WN 14) = true) (h3 : (T p).1 = 2) : vPt T (d + 1) p = fun _ => (T p).2.1.toInt32 := funext fun fc => by
  show (if isG T p 40 = true then _ else if isW T p (WN 14) = true then _ else if (T p).1 = 2 then _ else _) = _
  rw [if_neg h, if_neg h2, if_pos h3]
theorem vPt_fct {T : Nat → Int × Int64 × Nat} {d p : Nat} (h : ¬ isG T p 40 = true) (h2 : ¬ isW T p (WN 14) = true) (h3 : ¬ (T p).1 = 2) : vPt T (d + 1) p = fun fc => fc (fci T p) := funext fun fc => by
  show (if isG T p 40 = true then _ else if isW T p (WN 14) = true then _ else if (T p).1 = 2 then _ else _) = _
  rw [if_neg h, if_neg h2, if_neg h3]
theorem l2i_of {x : Int64} {n : Int32} (h : x.toInt = n.toInt) : x.toInt32 = n := by
  apply (i_eq _ _).mpr
  have b := i_bd n
  rw [Int64.toInt_toInt32, h]; exact fb_bmod (by omega) (by omega)
theorem jcd0 {T : Nat → Int × Int64 × Nat} {p : Nat} : jcd T 0 p = if isW T p (WN 15) = true then -10 else -11 := rfl
theorem jcd1 {T : Nat → Int × Int64 × Nat} {p : Nat} : jcd T 1 p = if isG T p 60 = true then -12 else -13 := rfl
theorem jcd2 {T : Nat → Int × Int64 × Nat} {p : Nat} : jcd T 2 p = if isG T p 43 = true then -14 else -15 := rfl
theorem jcd3 {T : Nat → Int × Int64 × Nat} {p : Nat} : jcd T 3 p = -16 := rfl
/-- a chain of the class under way -/
def CHV (T : Nat → Int × Int64 × Nat) (f g : Nat → Int32) (a b h : Nat) (sub : Nat → Nat × Int) (vs : Nat → (Nat → Int32) → Int32) (jn : Nat → Bool) (cj : Nat → Int) (k pl : Nat) (R : (Nat → Int32) → Int32) : Prop := ∃ A : (Nat → Int32) → Int32, CG f g a b h A ∧ CV T sub vs jn cj k pl R A
theorem CHV.start {T : Nat → Int × Int64 × Nat} {f g : Nat → Int32} {a b h : Nat} {P : Nat → Nat × Int} {V : Nat → (Nat → Int32) → Int32} {k p pl : Nat} (s : CG f g a b h (vLv T P V k p)) (e : rLv T P k p = (pl, 0)) : CHV T f g a b (h + 1) (rLv T P k) (vLv T P V k) (jnt T (3 - k)) (jcd T (3 - k)) (mst (3 - k)) pl (vLv T P V (k + 1) p) := ⟨vLv T P V k p, s.cast (by omega) rfl rfl, CV.start e⟩
theorem CHV.step {T : Nat → Int × Int64 × Nat} {f g g' g'' : Nat → Int32} {a b c b' h : Nat} {sub : Nat → Nat × Int} {vs : Nat → (Nat → Int32) → Int32} {jn : Nat → Bool} {cj : Nat → Int} {k pl q pl' : Nat} {R : (Nat → Int32) → Int32} {x : Int32} (s : CHV T f g a b (h + 1) sub vs jn cj (k + 1) pl R) (hj : jn pl = true) (hq : q = nx T pl) (hs : sub q = (pl', 0)) (hg : CG g g' b c h (vs q)) (ha : AD1 g' g'' c x) (hx : x.toInt = cj pl) (hl : cj pl < -9) (hb : c + 1 = b') : CHV T f g'' a b' (h + 1) sub vs jn cj k pl' R := by
  subst hb
  obtain ⟨A, s1, s2⟩ := s
  have g1 := s1.2.1
  have g2 := hg.2.1
  refine ⟨fun fc => jn6 (cj pl) (A fc) (vs q fc), ⟨fun j hj2 => ?_, ?_⟩, s2.step hj hq hs⟩
  · exact (ha.1 j (by omega)).trans ((hg.1 j (by omega)).trans (s1.1 j hj2))
  · exact CSeg.bin (s1.2.frame (fun j hj2 => (ha.1 j (by omega)).trans (hg.1 j hj2))) (hg.2.frame (fun j hj2 => ha.1 j (by omega))) (by rw [ha.2]; exact hx) hl (by omega)
theorem CHV.stop {T : Nat → Int × Int64 × Nat} {f g : Nat → Int32} {a b h : Nat} {sub : Nat → Nat × Int} {vs : Nat → (Nat → Int32) → Int32} {jn : Nat → Bool} {cj : Nat → Int} {k pl : Nat} {R : (Nat → Int32) → Int32} (s : CHV T f g a b h sub vs jn cj k pl R) (hj : k = 0 ∨ ¬ jn pl = true) : CG f g a b h R := by
  obtain ⟨A, s1, s2⟩ := s
  rw [← s2.stop hj]; exact s1

theorem mayC_iff {w n : Int} {E : (Nat → (Nat → Int32) → Int32)} {wd dp wt : Nat → Int32} {lids tops : Int32} {l u : Nat} : mayC w n E wd dp wt lids tops l u = true ↔ ((l : Int) < w ∧ (u : Int) < w ∧ ¬ u = l) ∧ mayP n.toNat E (fcC wd dp wt lids u l) (decide ((wd u).toInt < (wd l).toInt)) (BT tops l) = true := by
  unfold mayC
  rw [Bool.and_eq_true]
  exact ⟨fun h => ⟨of_decide_eq_true h.1, h.2⟩, fun h => ⟨decide_eq_true h.1, h.2⟩⟩

theorem fci_of {T : Nat → Int × Int64 × Nat} {p k : Nat} (hk : k < 8) (h : wI T p (WN ([17, 18, 19, 7, 20, 21, 1, 22].getD k 0)) = 1) : fci T p = k := by
  have u : ∀ {j m : Nat}, wI T p (WN j) = 1 → ¬ WN j = WN m → ¬ isW T p (WN m) = true := fun h1 h2 h3 => h2 ((of_decide_eq_true (wI_1.mp h1)).2.symm.trans (of_decide_eq_true h3).2)
  have h3 : k = 0 ∨ k = 1 ∨ k = 2 ∨ k = 3 ∨ k = 4 ∨ k = 5 ∨ k = 6 ∨ k = 7 := by omega
  unfold fci
  rcases h3 with rfl | rfl | rfl | rfl | rfl | rfl | rfl | rfl
  · have h' : wI T p (WN 17) = 1 := h
    rw [if_pos (wI_1.mp h')]
  · have h' : wI T p (WN 18) = 1 := h
    rw [if_neg (u h' (by decide)), if_pos (wI_1.mp h')]
  · have h' : wI T p (WN 19) = 1 := h
    rw [if_neg (u h' (by decide)), if_neg (u h' (by decide)), if_pos (wI_1.mp h')]
  · have h' : wI T p (WN 7) = 1 := h
    rw [if_neg (u h' (by decide)), if_neg (u h' (by decide)), if_neg (u h' (by decide)), if_pos (wI_1.mp h')]
  · have h' : wI T p (WN 20) = 1 := h
    rw [if_neg (u h' (by decide)), if_neg (u h' (by decide)), if_neg (u h' (by decide)), if_neg (u h' (by decide)), if_pos (wI_1.mp h')]
  · have h' : wI T p (WN 21) = 1 := h
    rw [if_neg (u h' (by decide)), if_neg (u h' (by decide)), if_neg (u h' (by decide)), if_neg (u h' (by decide)), if_neg (u h' (by decide)), if_pos (wI_1.mp h')]
  · have h' : wI T p (WN 1) = 1 := h
    rw [if_neg (u h' (by decide)), if_neg (u h' (by decide)), if_neg (u h' (by decide)), if_neg (u h' (by decide)), if_neg (u h' (by decide)), if_neg (u h' (by decide)), if_pos (wI_1.mp h')]
  · have h' : wI T p (WN 22) = 1 := h
    rw [if_neg (u h' (by decide)), if_neg (u h' (by decide)), if_neg (u h' (by decide)), if_neg (u h' (by decide)), if_neg (u h' (by decide)), if_neg (u h' (by decide)), if_neg (u h' (by decide))]
/-- a worth sees the eight facts alone -/
def EX8 (V : (Nat → Int32) → Int32) : Prop := ∀ f g : Nat → Int32, (∀ k, k < 8 → f k = g k) → V f = V g
theorem chV_ext {sub : Nat → Nat × Int} {vs vs' : Nat → Int32} {nxt : Nat → Nat} {jn : Nat → Bool} {cj : Nat → Int} (h : ∀ q, vs q = vs' q) : ∀ (k : Nat) (r : Nat × Int) (a : Int32), chV sub vs nxt jn cj k r a = chV sub vs' nxt jn cj k r a := by
  have e : vs = vs' := funext h
  intro k r a
  rw [e]
theorem vLv_ext {T : Nat → Int × Int64 × Nat} {P : Nat → Nat × Int} {V : Nat → (Nat → Int32) → Int32} (h : ∀ q, EX8 (V q)) : ∀ k p, EX8 (vLv T P V k p) := by
  intro k
  induction k with
  | zero => exact h
  | succ k ih =>
    intro p f g hfg
    show chV (rLv T P k) (fun q => vLv T P V k q f) (nx T) (jnt T (3 - k)) (jcd T (3 - k)) (mst (3 - k)) (rLv T P k p) (vLv T P V k p f) = chV (rLv T P k) (fun q => vLv T P V k q g) (nx T) (jnt T (3 - k)) (jcd T (3 - k)) (mst (3 - k)) (rLv T P k p) (vLv T P V k p g)
    rw [ih p f g hfg]
    exact chV_ext (fun q => ih q f g hfg) _ _ _
theorem vPt_ext {T : Nat → Int × Int64 × Nat} : ∀ d p, EX8 (vPt T d p) := by
  intro d
  induction d with
  | zero => intro p f g _; rfl
  | succ d ih =>
    intro p f g hfg
    show (if isG T p 40 = true then vLv T (rPt T d) (vPt T d) 4 (nx T p) f else if isW T p (WN 14) = true then (if vPt T d (nx T p) f = 0 then 1 else 0) else if (T p).1 = 2 then (T p).2.1.toInt32 else f (fci T p)) = (if isG T p 40 = true then vLv T (rPt T d) (vPt T d) 4 (nx T p) g else if isW T p (WN 14) = true then (if vPt T d (nx T p) g = 0 then 1 else 0) else if (T p).1 = 2 then (T p).2.1.toInt32 else g (fci T p))
    rw [vLv_ext ih 4 (nx T p) f g hfg, ih (nx T p) f g hfg, hfg _ (fci_lt T p)]
/-- a chain of the reference under way -/
def RV (T : Nat → Int × Int64 × Nat) (o a : Nat → Int32) (i j : Nat) (sub : Nat → Nat × Int) (vs : Nat → (Nat → Int32) → Int32) (jn : Nat → Bool) (cj : Nat → Int) (p : Nat) (R : (Nat → Int32) → Int32) : Prop := ∃ A : (Nat → Int32) → Int32, MSeg o a i j A ∧ ∃ k, 1000 ≤ k + p ∧ CV T sub vs jn cj k p R A
theorem RV.start {T : Nat → Int × Int64 × Nat} {o a : Nat → Int32} {i j : Nat} {P : Nat → Nat × Int} {V : Nat → (Nat → Int32) → Int32} {k p pl : Nat} (s : MSeg o a i j (vLv T P V k p)) (e : rLv T P k p = (pl, 0)) (hm : mst (3 - k) = 1000) : RV T o a i j (rLv T P k) (vLv T P V k) (jnt T (3 - k)) (jcd T (3 - k)) pl (vLv T P V (k + 1) p) := by
  have c := CV.start (V := V) e
  rw [hm] at c
  exact ⟨vLv T P V k p, s, 1000, by omega, c⟩
theorem RV.step {T : Nat → Int × Int64 × Nat} {o a o1 a1 o2 a2 : Nat → Int32} {i j k k' : Nat} {sub : Nat → Nat × Int} {vs : Nat → (Nat → Int32) → Int32} {jn : Nat → Bool} {cj : Nat → Int} {p q p' : Nat} {R : (Nat → Int32) → Int32} {c : Int32} (hs : ∀ q, (sub q).2 = 0 → q < (sub q).1) (hp : p < 1000 ∧ p < nx T p) (s : RV T o a i j sub vs jn cj p R) (hj : jn p = true) (hq : q = nx T p) (e : sub q = (p', 0)) (f1 : ∀ t, t < j → o1 t = o t) (f2 : ∀ t, t < j → a1 t = a t) (m : MSeg o1 a1 j k (vs q)) (g1 : ∀ t, t < k → o2 t = o1 t) (g2 : ∀ t, t < k → a2 t = a1 t) (hc : o2 k = c) (h4 : 4 ≤ c.toInt) (hx : ∀ u v, bth c u v = jn6 (cj p) u v) (hk : k + 1 = k') : RV T o2 a2 i k' sub vs jn cj p' R := by
  subst hk
  obtain ⟨A, s1, n, n1, n2⟩ := s
  obtain ⟨x, rfl⟩ : ∃ x, n = x + 1 := ⟨n - 1, by omega⟩
  have y := hs q (by rw [e])
  rw [e] at y
  have y2 : q < p' := y
  have m1 := m.1
  refine ⟨_, MSeg.bin ((s1.frame f1 f2).frame (fun t ht => g1 t (by omega)) (fun t ht => g2 t (by omega))) (m.frame g1 g2) hc h4 hx, x, by omega, n2.step hj hq e⟩
theorem RV.stop {T : Nat → Int × Int64 × Nat} {o a : Nat → Int32} {i j : Nat} {sub : Nat → Nat × Int} {vs : Nat → (Nat → Int32) → Int32} {jn : Nat → Bool} {cj : Nat → Int} {p : Nat} {R : (Nat → Int32) → Int32} (s : RV T o a i j sub vs jn cj p R) (hj : ¬ jn p = true) : MSeg o a i j R := by
  obtain ⟨A, s1, n, n1, n2⟩ := s
  rw [← n2.stop (Or.inr hj)]; exact s1
/-- the nests told in the half that is being read; the nests told -/
def NE6 (t o a : Nat → Int32) (c : Int) (E : (Nat → (Nat → Int32) → Int32)) : Prop := ∀ k : Nat, (k : Int) < (t 122).toInt → EX8 (E k) ∧ ∃ e : Nat, MSeg o a (1100 + (t (231 + k)).toInt).toNat e (E k) ∧ o e = 0 ∧ (e : Int) < 1100 + c
def ME6 (t o a : Nat → Int32) (E : (Nat → (Nat → Int32) → Int32)) : Prop := ∀ k : Nat, (k : Int) < (t 2).toInt → EX8 (E k) ∧ ∃ e : Nat, MSeg o a (t (111 + k)).toInt.toNat e (E k) ∧ o e = 0
theorem NE6.frame {t o a t' o' a' : Nat → Int32} {c c' : Int} {E : (Nat → (Nat → Int32) → Int32)} (h : NE6 t o a c E) (ht : ∀ j, (j < 120 ∨ j = 122 ∨ 231 ≤ j) → t' j = t j) (hc : c ≤ c') (ho : ∀ j, j < (1100 + c).toNat → o' j = o j) (ha : ∀ j, j < (1100 + c).toNat → a' j = a j) : NE6 t' o' a' c' E := fun k hk => by
  rw [ht 122 (Or.inr (Or.inl rfl))] at hk
  obtain ⟨x, e, h1, h2, h3⟩ := h k hk
  refine ⟨x, e, ?_, ?_, by omega⟩
  · rw [ht (231 + k) (Or.inr (Or.inr (by omega)))]
    exact h1.frame (fun j hj => ho j (by omega)) (fun j hj => ha j (by omega))
  · rw [ho e (by omega)]; exact h2
theorem NE6.more {T : Nat → Int × Int64 × Nat} {S : ((Nat → Int64) × Nat × (Nat → Int64) × Nat × (Nat → Bool) × (Nat → Bool) × Nat)} {p : Nat} {t o a t' o' a' : Nat → Int32} {c c' : Int} {e : Nat} {E : (Nat → (Nat → Int32) → Int32)} (h : NE6 t o a c E) (hS : (t 122).toInt = ((S.2.2.2.2.2.2 : Nat) : Int)) (hn : (t' 122).toInt = (t 122).toInt + 1) (ht : ∀ k : Nat, (k : Int) < (t 122).toInt → t' (231 + k) = t (231 + k)) (hs : MSeg o' a' (1100 + (t' (231 + (t 122).toInt.toNat)).toInt).toNat e (vLv T (rPt T 5) (vPt T 5) 4 (nx T p))) (h0 : o' e = 0) (he : (e : Int) < 1100 + c') (hc : c ≤ c') (ho : ∀ j, j < (1100 + c).toNat → o' j = o j) (ha : ∀ j, j < (1100 + c).toNat → a' j = a j) : NE6 t' o' a' c' (eNest T S E p) := fun k hk => by
  rw [hn] at hk
  by_cases z : k = S.2.2.2.2.2.2
  · have e1 : eNest T S E p k = vLv T (rPt T 5) (vPt T 5) 4 (nx T p) := if_pos z
    rw [e1, show k = (t 122).toInt.toNat by omega]
    exact ⟨vLv_ext (fun q => vPt_ext 5 q) 4 (nx T p), e, hs, h0, he⟩
  · have e1 : eNest T S E p k = E k := if_neg z
    have q : (k : Int) < (t 122).toInt := by omega
    rw [e1]
    obtain ⟨x, e, h1, h2, h3⟩ := h k q
    refine ⟨x, e, ?_, ?_, by omega⟩
    · rw [ht k q]; exact h1.frame (fun j hj => ho j (by omega)) (fun j hj => ha j (by omega))
    · rw [ho e (by omega)]; exact h2
theorem ME6.of {t o a t' o' a' : Nat → Int32} {c : Int} {E : (Nat → (Nat → Int32) → Int32)} (h : NE6 t o a c E) (hc : c ≤ 1000) (h4 : (t 122).toInt ≤ 4) (hp : ∀ k : Nat, k < 4 → 0 ≤ (t (231 + k)).toInt) (ht : ∀ j : Nat, j < 120 → t' j = t (120 + j)) (ho : ∀ j : Nat, j < 1100 → o' j = o (1100 + j)) (ha : ∀ j : Nat, j < 1100 → a' j = a (1100 + j)) : ME6 t' o' a' E := fun k hk => by
  rw [ht 2 (by decide)] at hk
  have hk' : (k : Int) < (t 122).toInt := hk
  obtain ⟨x, e, h1, h2, h3⟩ := h k hk'
  have g := h1.1
  have p0 := hp k (by omega)
  refine ⟨x, e - 1100, ?_, ?_⟩
  · rw [ht (111 + k) (by omega), show 120 + (111 + k) = 231 + k by omega]
    refine MSeg.shift (o := o) (a := a) (d := 1100) ?_ (fun y y1 y2 => ?_) (fun y y1 y2 => ?_)
    · rw [show (t (231 + k)).toInt.toNat + 1100 = (1100 + (t (231 + k)).toInt).toNat by omega, show e - 1100 + 1100 = e by omega]; exact h1
    · rw [ho y (by omega), Nat.add_comm]
    · rw [ha y (by omega), Nat.add_comm]
  · rw [ho (e - 1100) (by omega), show 1100 + (e - 1100) = e by omega]; exact h2
theorem ME6.fr {t o a t' o' a' : Nat → Int32} {E : (Nat → (Nat → Int32) → Int32)} (h : ME6 t o a E) (hb : ∀ k : Nat, (k : Int) < (t 2).toInt → ∃ e : Nat, o e = 0 ∧ e < 1100 ∧ (t (111 + k)).toInt.toNat ≤ e) (h4 : (t 2).toInt ≤ 4) (ht : ∀ j : Nat, j < 120 → t' j = t j) (ho : ∀ j : Nat, j < 1100 → o' j = o j) (ha : ∀ j : Nat, j < 1100 → a' j = a j) : ME6 t' o' a' E := fun k hk => by
  rw [ht 2 (by decide)] at hk
  obtain ⟨x, e, h1, h2⟩ := h k hk
  obtain ⟨e', b1, b2, b3⟩ := hb k hk
  have l : e ≤ e' := by
    rcases Nat.lt_or_ge e' e with q | q
    · exact absurd b1 (h1.2.1 e' b3 q)
    · exact q
  refine ⟨x, e, ?_, ?_⟩
  · rw [ht (111 + k) (by omega)]
    exact h1.frame (fun j hj => ho j (by omega)) (fun j hj => ha j (by omega))
  · rw [ho e (by omega)]; exact h2
/-- the facts of two wares, by the reference's rows; whether one MAY stand on another -/
def fcM (t : Nat → Int32) (u l : Nat) : Nat → Int32 := fun k => if k = 0 then t (3 + 8 * u) else if k = 1 then t (3 + 8 * l) else if k = 2 then t (3 + 8 * u + 1) else if k = 3 then t (3 + 8 * l + 1) else if k = 4 then t (3 + 8 * u + 2) else if k = 5 then t (3 + 8 * l + 2) else if k = 6 then t (3 + 8 * u + 6) else t (3 + 8 * l + 6)
def mayM (t : Nat → Int32) (E : (Nat → (Nat → Int32) → Int32)) (u l : Nat) : Bool := mayP (t 2).toInt.toNat E (fcM t u l) (decide ((t (3 + 8 * u)).toInt < (t (3 + 8 * l)).toInt)) (decide ((t (3 + 8 * l + 7)).toInt = 1))

theorem mrun_snoc {fs o a : Nat → Int32} {k i : Nat} {z y : Nat × (Nat → Int32)} {c x : Int32} (h : mrun fs o a k i z = y) (hc : o (i + k) = c) (hx : a (i + k) = x) : mrun fs o a (k + 1) i z = mcs fs c x y := by rw [mrun_add, h, ← hc, ← hx]; rfl
theorem mcs_num {fs : Nat → Int32} {c x : Int32} {n n' : Nat} {g g' : Nat → Int32} (hc : c = 1) (hn : n' = n + 1) (hg : g' = upd g n x) : mcs fs c x (n, g) = (n', g') := by
  unfold mcs; rw [if_pos hc, hn, hg]
theorem mcs_fct {fs : Nat → Int32} {c x v : Int32} {n n' : Nat} {g g' : Nat → Int32} (hc : c = 2) (hn : n' = n + 1) (hv : fs x.toInt.toNat = v) (hg : g' = upd g n v) : mcs fs c x (n, g) = (n', g') := by
  unfold mcs; rw [if_neg (by rw [hc]; decide), if_pos hc, hn, hg, ← hv]
theorem mcs_neg {fs : Nat → Int32} {c x v r : Int32} {n n' m : Nat} {g g' : Nat → Int32} (hc : c = 3) (hn : n' = n) (hm : m = n - 1) (hr : g m = r) (hv : v = if r = 0 then 1 else 0) (hg : g' = upd g m v) : mcs fs c x (n, g) = (n', g') := by
  unfold mcs; rw [if_neg (by rw [hc]; decide), if_neg (by rw [hc]; decide), if_pos hc, hn, hg, hv, ← hr, hm]
theorem mcs_bin {fs : Nat → Int32} {c x v : Int32} {n n' m k : Nat} {g g' : Nat → Int32} (h1 : ¬ c = 1) (h2 : ¬ c = 2) (h3 : ¬ c = 3) (hn : n' = n - 1) (hm : m = n - 2) (hk : k = n - 1) (hv : v = bth c (g m) (g k)) (hg : g' = upd g m v) : mcs fs c x (n, g) = (n', g') := by
  unfold mcs; rw [if_neg h1, if_neg h2, if_neg h3, hn, hg, hv, hm, hk]
/-- the search through the nests, under way -/
def MYL (n : Nat) (E : (Nat → (Nat → Int32) → Int32)) (fc : Nat → Int32) (wl : Bool) (k r : Int) : Prop := (r = 1 → (n = 0 → wl = true) ∧ ∀ i : Nat, (i : Int) < k → ¬ E i fc = 0) ∧ (r = 0 → ¬ ((n = 0 → wl = true) ∧ ∀ i : Nat, i < n → ¬ E i fc = 0))
theorem MYL.fin {n : Nat} {E : (Nat → (Nat → Int32) → Int32)} {fc : Nat → Int32} {wl tp : Bool} {k r : Int} (h : MYL n E fc wl k r) (hk : (n : Int) ≤ k) (hr : r = 0 ∨ r = 1) (ht : tp = false) : r = if mayP n E fc wl tp = true then 1 else 0 := by
  rcases hr with q | q
  · rw [if_neg (fun z => h.2 q ⟨(mayP_iff.mp z).2.1, (mayP_iff.mp z).2.2⟩)]; exact q
  · rw [if_pos (mayP_iff.mpr ⟨ht, (h.1 q).1, fun i hi => (h.1 q).2 i (by omega)⟩)]; exact q
/-- what the class has found and what the reference finds -/
def MYR (w nn : Int) (wd dp wt : Nat → Int32) (lids tops : Int32) (my t o a : Nat → Int32) : Prop := ∃ E : (Nat → (Nat → Int32) → Int32), MYC my (mayC w nn E wd dp wt lids tops) ∧ ME6 t o a E ∧ nn = (t 2).toInt

/-- what may() answers: the reference, the class -/
def maR (t : Nat → Int32) (E : (Nat → (Nat → Int32) → Int32)) (a b : Int) : Int := if 0 ≤ a ∧ a < (t 0).toInt ∧ 0 ≤ b ∧ b < (t 0).toInt ∧ ¬ a = b then (if mayM t E a.toNat b.toNat = true then 1 else 0) else -1
def maC (w : Int) (my : Nat → Int32) (a b : Int) : Int := if 0 ≤ a ∧ a < w ∧ 0 ≤ b ∧ b < w ∧ ¬ a = b then (if BT (my b.toNat) a.toNat = true then 1 else 0) else -1

/-- how many of the first m are so -/
def cnB (P : Nat → Bool) : Nat → Nat
  | 0 => 0
  | j + 1 => cnB P j + (if P j = true then 1 else 0)
theorem cnB_s (P : Nat → Bool) (j : Nat) : cnB P (j + 1) = cnB P j + (if P j = true then 1 else 0) := rfl
theorem cnB_y {P : Nat → Bool} {j : Nat} (h : P j = true) : cnB P (j + 1) = cnB P j + 1 := by rw [cnB_s, if_pos h]
theorem cnB_n {P : Nat → Bool} {j : Nat} (h : ¬ P j = true) : cnB P (j + 1) = cnB P j := by rw [cnB_s, if_neg h, Nat.add_zero]
theorem cnB_le (P : Nat → Bool) : ∀ m, cnB P m ≤ m := by
  intro m
  induction m with
  | zero => exact Nat.le_refl 0
  | succ m ih =>
    by_cases h : P m = true
    · rw [cnB_y h]; omega
    · rw [cnB_n h]; omega
theorem cnB_cong {P Q : Nat → Bool} : ∀ m, (∀ j, j < m → P j = Q j) → cnB P m = cnB Q m := by
  intro m
  induction m with
  | zero => intro _; rfl
  | succ m ih =>
    intro h
    rw [cnB_s, cnB_s, ih (fun j hj => h j (by omega)), h m (by omega)]
theorem cnB_0 {P : Nat → Bool} : ∀ m, (∀ j, j < m → ¬ P j = true) → cnB P m = 0 := by
  intro m
  induction m with
  | zero => intro _; rfl
  | succ m ih => intro h; rw [cnB_n (h m (by omega))]; exact ih (fun j hj => h j (by omega))
/-- they are as many as a row of them that differ and are all -/
theorem cnB_row {P : Nat → Bool} : ∀ (m n : Nat) (g : Nat → Nat), (∀ p, p < n → g p < m ∧ P (g p) = true) → (∀ p q, p < q → q < n → ¬ g p = g q) → (∀ w, w < m → P w = true → ∃ p, p < n ∧ g p = w) → cnB P m = n := by
  intro m
  induction m with
  | zero =>
    intro n g h1 _ _
    rcases Nat.eq_zero_or_pos n with q | q
    · exact q.symm
    · exact absurd (h1 0 q).1 (by omega)
  | succ m ih =>
    intro n g h1 h2 h3
    by_cases hP : P m = true
    · obtain ⟨p0, hp0, hg0⟩ := h3 m (by omega) hP
      have ne : ∀ q, q < n → ¬ q = p0 → ¬ g q = m := fun q hq hn e => by
        rcases Nat.lt_or_ge q p0 with z | z
        · exact h2 q p0 z hp0 (e.trans hg0.symm)
        · exact h2 p0 q (by omega) hq (hg0.trans e.symm)
      have r := ih (n - 1) (fun q => if q = p0 then g (n - 1) else g q) (fun q hq => by
        show (if q = p0 then g (n - 1) else g q) < m ∧ P (if q = p0 then g (n - 1) else g q) = true
        by_cases e : q = p0
        · rw [if_pos e]
          have a1 := h1 (n - 1) (by omega)
          have a2 := ne (n - 1) (by omega) (by omega)
          exact ⟨by omega, a1.2⟩
        · rw [if_neg e]
          have a1 := h1 q (by omega)
          have a2 := ne q (by omega) e
          exact ⟨by omega, a1.2⟩) (fun q r hqr hr => by
        show ¬ (if q = p0 then g (n - 1) else g q) = (if r = p0 then g (n - 1) else g r)
        by_cases e : q = p0
        · rw [if_pos e, if_neg (by omega)]; exact fun z => h2 r (n - 1) (by omega) (by omega) z.symm
        · rw [if_neg e]
          by_cases e2 : r = p0
          · rw [if_pos e2]; exact h2 q (n - 1) (by omega) (by omega)
          · rw [if_neg e2]; exact h2 q r hqr (by omega)) (fun w hw hPw => by
        obtain ⟨p, hp, hg⟩ := h3 w (by omega) hPw
        have np : ¬ p = p0 := fun z => by rw [z, hg0] at hg; omega
        by_cases e : p = n - 1
        · refine ⟨p0, by omega, ?_⟩
          show (if p0 = p0 then g (n - 1) else g p0) = w
          rw [if_pos rfl, ← e]; exact hg
        · refine ⟨p, by omega, ?_⟩
          show (if p = p0 then g (n - 1) else g p) = w
          rw [if_neg np]; exact hg)
      rw [cnB_y hP, r]; omega
    · rw [cnB_n hP]
      exact ih n g (fun p hp => by
        have a := h1 p hp
        have b : ¬ g p = m := fun z => hP (by rw [← z]; exact a.2)
        exact ⟨by omega, a.2⟩) h2 (fun w hw => h3 w (by omega))

/-- whether a ware stands in a stack of the class; the row of a stack: wares from below -/
def std (sh st : Nat → Int32) (s k : Int32) (w : Nat) : Bool := decide (sh w = s ∧ st w = k)
theorem std_iff {sh st : Nat → Int32} {s k : Int32} {w : Nat} : std sh st s k w = true ↔ sh w = s ∧ st w = k := by unfold std; exact decide_eq_true_iff
def ROW (sh st lv : Nat → Int32) (s k : Int32) (r : Nat → Int32) (n : Nat) : Prop := (∀ w : Nat, w < 12 → sh w = s → st w = k → 0 ≤ (lv w).toInt ∧ (lv w).toInt < (n : Int) ∧ (r (lv w).toInt.toNat).toInt = (w : Int)) ∧ ∀ p : Nat, p < n → ∃ w : Nat, w < 12 ∧ (r p).toInt = (w : Int) ∧ sh w = s ∧ st w = k ∧ (lv w).toInt = (p : Int)
theorem ROW.size {sh st lv : Nat → Int32} {s k : Int32} {r : Nat → Int32} {n : Nat} (h : ROW sh st lv s k r n) : cnB (std sh st s k) 12 = n :=
  cnB_row 12 n (fun p => (r p).toInt.toNat) (fun p hp => by
    obtain ⟨w, h1, h2, h3, h4, h5⟩ := h.2 p hp
    have e : (r p).toInt.toNat = w := by omega
    show (r p).toInt.toNat < 12 ∧ std sh st s k (r p).toInt.toNat = true
    rw [e]; exact ⟨h1, std_iff.mpr ⟨h3, h4⟩⟩) (fun p q hpq hq e => by
    obtain ⟨w, h1, h2, h3, h4, h5⟩ := h.2 p (by omega)
    obtain ⟨v, g1, g2, g3, g4, g5⟩ := h.2 q hq
    have e' : (r p).toInt.toNat = (r q).toInt.toNat := e
    have : w = v := by omega
    subst this; omega) (fun w hw hP => by
    obtain ⟨a, b⟩ := std_iff.mp hP
    obtain ⟨c, d, e⟩ := h.1 w hw a b
    refine ⟨(lv w).toInt.toNat, by omega, ?_⟩
    show (r (lv w).toInt.toNat).toInt.toNat = w
    omega)
theorem ROW.le {sh st lv : Nat → Int32} {s k : Int32} {r : Nat → Int32} {n : Nat} (h : ROW sh st lv s k r n) : n ≤ 12 := by rw [← h.size]; exact cnB_le _ 12
theorem ROW.bd {sh st lv : Nat → Int32} {s k : Int32} {r : Nat → Int32} {n : Nat} (h : ROW sh st lv s k r n) {p : Nat} (hp : p < n) : 0 ≤ (r p).toInt ∧ (r p).toInt < 12 := by
  obtain ⟨w, h1, h2, _⟩ := h.2 p hp; omega
theorem ROW.ne {sh st lv : Nat → Int32} {s k : Int32} {r : Nat → Int32} {n : Nat} (h : ROW sh st lv s k r n) {p q : Nat} (hp : p < n) (hq : q < n) (hpq : ¬ p = q) : ¬ r p = r q := fun e => by
  obtain ⟨w, h1, h2, h3, h4, h5⟩ := h.2 p hp
  obtain ⟨v, g1, g2, g3, g4, g5⟩ := h.2 q hq
  rw [e] at h2
  have : w = v := by omega
  subst this; omega
theorem ROW.at {sh st lv : Nat → Int32} {s k : Int32} {r : Nat → Int32} {n : Nat} (h : ROW sh st lv s k r n) {w : Nat} (hw : w < 12) (h1 : sh w = s) (h2 : st w = k) : (lv w).toInt.toNat < n ∧ (r (lv w).toInt.toNat).toInt = (w : Int) ∧ 0 ≤ (lv w).toInt := by
  obtain ⟨a, b, c⟩ := h.1 w hw h1 h2; exact ⟨by omega, c, a⟩
/-- why a row does not stand -/
def wtF (wt : Nat → Int32) (r : Nat → Int32) (i : Nat) : Nat → Int32
  | 0 => 0
  | n + 1 => if i ≤ n then wtF wt r i n + wt (r n).toInt.toNat else 0
def ftF (rs : Nat → Nat → Int32) (r : Nat → Int32) : Nat → Int32
  | 0 => 0
  | p + 1 => ftF rs r p + rs (r (p + 1)).toInt.toNat (r p).toInt.toNat
def hiF (rs : Nat → Nat → Int32) (dp : Nat → Int32) (r : Nat → Int32) : Nat → Int32
  | 0 => 0
  | n + 1 => if hiF rs dp r n < ftF rs r n + dp (r n).toInt.toNat then ftF rs r n + dp (r n).toInt.toNat else hiF rs dp r n
def myF (M : Nat → Nat → Bool) (r : Nat → Int32) (n : Nat) : Prop := ∀ i : Nat, 1 ≤ i → i < n → M (r i).toInt.toNat (r (i - 1)).toInt.toNat = true
def brF (wt br : Nat → Int32) (r : Nat → Int32) (n : Nat) : Prop := ∀ i : Nat, i < n → ¬ br (r i).toInt.toNat < wtF wt r (i + 1) n
/-- the first reason, as a relation: so that no side needs decide -/
def RFZ (M : Nat → Nat → Bool) (wt br dp : Nat → Int32) (rs : Nat → Nat → Int32) (r : Nat → Int32) (n : Nat) (h : Int32) (x : Int) : Prop := (x = 4 ∧ ¬ myF M r n) ∨ (myF M r n ∧ ((x = 5 ∧ ¬ brF wt br r n) ∨ (brF wt br r n ∧ ((x = 6 ∧ h < hiF rs dp r n) ∨ (x = 0 ∧ ¬ h < hiF rs dp r n)))))
theorem RFZ.uniq {M : Nat → Nat → Bool} {wt br dp : Nat → Int32} {rs : Nat → Nat → Int32} {r : Nat → Int32} {n : Nat} {h : Int32} {x y : Int} (a : RFZ M wt br dp rs r n h x) (b : RFZ M wt br dp rs r n h y) : x = y := by
  rcases a with ⟨a1, a2⟩ | ⟨a2, ⟨a1, a3⟩ | ⟨a3, ⟨a1, a4⟩ | ⟨a1, a4⟩⟩⟩
  · rcases b with ⟨b1, b2⟩ | ⟨b2, _⟩
    · exact a1.trans b1.symm
    · exact absurd b2 a2
  · rcases b with ⟨b1, b2⟩ | ⟨b2, ⟨b1, b3⟩ | ⟨b3, _⟩⟩
    · exact absurd a2 b2
    · exact a1.trans b1.symm
    · exact absurd b3 a3
  · rcases b with ⟨b1, b2⟩ | ⟨b2, ⟨b1, b3⟩ | ⟨b3, ⟨b1, b4⟩ | ⟨b1, b4⟩⟩⟩
    · exact absurd a2 b2
    · exact absurd a3 b3
    · exact a1.trans b1.symm
    · exact absurd a4 b4
  · rcases b with ⟨b1, b2⟩ | ⟨b2, ⟨b1, b3⟩ | ⟨b3, ⟨b1, b4⟩ | ⟨b1, b4⟩⟩⟩
    · exact absurd a2 b2
    · exact absurd a3 b3
    · exact absurd b4 a4
    · exact a1.trans b1.symm
theorem wtF_cong {wt wt' r r' : Nat → Int32} {i : Nat} : ∀ n, (∀ p, i ≤ p → p < n → wt (r p).toInt.toNat = wt' (r' p).toInt.toNat) → wtF wt r i n = wtF wt' r' i n := by
  intro n
  induction n with
  | zero => intro _; rfl
  | succ n ih =>
    intro h
    show (if i ≤ n then wtF wt r i n + wt (r n).toInt.toNat else 0) = (if i ≤ n then wtF wt' r' i n + wt' (r' n).toInt.toNat else 0)
    by_cases q : i ≤ n
    · rw [if_pos q, if_pos q, ih (fun p h1 h2 => h p h1 (by omega)), h n q (by omega)]
    · rw [if_neg q, if_neg q]
theorem wtF_top (wt r : Nat → Int32) (i : Nat) {n : Nat} (h : i ≤ n) : wtF wt r i (n + 1) = wtF wt r i n + wt (r n).toInt.toNat := if_pos h
theorem wtF_0 (wt r : Nat → Int32) {i n : Nat} (h : n ≤ i) : wtF wt r i n = 0 := by
  cases n with
  | zero => rfl
  | succ n => exact if_neg (by omega)
/-- from below: one more ahead -/
theorem wtF_low (wt r : Nat → Int32) {i : Nat} : ∀ n, i < n → wtF wt r i n = wt (r i).toInt.toNat + wtF wt r (i + 1) n := by
  intro n
  induction n with
  | zero => intro h; exact absurd h (Nat.not_lt_zero _)
  | succ n ih =>
    intro h
    rw [wtF_top wt r i (by omega)]
    by_cases q : i = n
    · rw [wtF_0 wt r (by omega), wtF_0 wt r (i := i + 1) (n := n + 1) (by omega), q, Int32.zero_add, Int32.add_zero]
    · rw [ih (by omega), wtF_top wt r (i + 1) (by omega), Int32.add_assoc]
theorem ftF_cong {rs rs' : Nat → Nat → Int32} {r r' : Nat → Int32} : ∀ p, (∀ q, q < p → rs (r (q + 1)).toInt.toNat (r q).toInt.toNat = rs' (r' (q + 1)).toInt.toNat (r' q).toInt.toNat) → ftF rs r p = ftF rs' r' p := by
  intro p
  induction p with
  | zero => intro _; rfl
  | succ p ih => intro h; show ftF rs r p + _ = ftF rs' r' p + _; rw [ih (fun q hq => h q (by omega)), h p (by omega)]
theorem hiF_cong {rs rs' : Nat → Nat → Int32} {dp dp' r r' : Nat → Int32} : ∀ n, (∀ q, q + 1 < n → rs (r (q + 1)).toInt.toNat (r q).toInt.toNat = rs' (r' (q + 1)).toInt.toNat (r' q).toInt.toNat) → (∀ q, q < n → dp (r q).toInt.toNat = dp' (r' q).toInt.toNat) → hiF rs dp r n = hiF rs' dp' r' n := by
  intro n
  induction n with
  | zero => intro _ _; rfl
  | succ n ih =>
    intro h1 h2
    show (if hiF rs dp r n < ftF rs r n + dp (r n).toInt.toNat then _ else _) = (if hiF rs' dp' r' n < ftF rs' r' n + dp' (r' n).toInt.toNat then _ else _)
    rw [ih (fun q hq => h1 q (by omega)) (fun q hq => h2 q (by omega)), ftF_cong n (fun q hq => h1 q (by omega)), h2 n (by omega)]
theorem RFZ.cong {M M' : Nat → Nat → Bool} {wt br dp wt' br' dp' : Nat → Int32} {rs rs' : Nat → Nat → Int32} {r r' : Nat → Int32} {n : Nat} {h h' : Int32} {x : Int} (a : RFZ M wt br dp rs r n h x) (hh : h = h') (hM : ∀ p, p + 1 < n → M (r (p + 1)).toInt.toNat (r p).toInt.toNat = M' (r' (p + 1)).toInt.toNat (r' p).toInt.toNat) (hw : ∀ p, p < n → wt (r p).toInt.toNat = wt' (r' p).toInt.toNat) (hb : ∀ p, p < n → br (r p).toInt.toNat = br' (r' p).toInt.toNat) (hd : ∀ p, p < n → dp (r p).toInt.toNat = dp' (r' p).toInt.toNat) (hr : ∀ p, p + 1 < n → rs (r (p + 1)).toInt.toNat (r p).toInt.toNat = rs' (r' (p + 1)).toInt.toNat (r' p).toInt.toNat) : RFZ M' wt' br' dp' rs' r' n h' x := by
  subst hh
  have e1 : myF M r n ↔ myF M' r' n := by
    constructor
    · intro z i h1 h2
      have y := hM (i - 1) (by omega)
      rw [show i - 1 + 1 = i from (by omega)] at y
      rw [← y]; exact z i h1 h2
    · intro z i h1 h2
      have y := hM (i - 1) (by omega)
      rw [show i - 1 + 1 = i from (by omega)] at y
      rw [y]; exact z i h1 h2
  have e2 : brF wt br r n ↔ brF wt' br' r' n := by
    have y : ∀ i, wtF wt r (i + 1) n = wtF wt' r' (i + 1) n := fun i => wtF_cong n (fun p _ h2 => hw p h2)
    constructor
    · intro z i h1
      rw [← y i, ← hb i h1]; exact z i h1
    · intro z i h1
      rw [y i, hb i h1]; exact z i h1
  have e3 := hiF_cong n hr hd
  unfold RFZ
  rw [← e1, ← e2, ← e3]; exact a

/-- a row is changed place by place: V is what comes, i how far it is -/
def PWI (V : Nat → Int) (g0 g : Nat → Int32) (i : Int) : Prop := ∀ j : Nat, j < 12 → ((j : Int) < i → (g j).toInt = V j) ∧ (i ≤ (j : Int) → g j = g0 j)
theorem PWI.zero {V : Nat → Int} {g0 : Nat → Int32} {i : Int} (hi : i = 0) : PWI V g0 g0 i := fun j _ => ⟨fun h => absurd h (by omega), fun _ => rfl⟩
theorem PWI.at {V : Nat → Int} {g0 g : Nat → Int32} {i : Int} (h : PWI V g0 g i) (h0 : 0 ≤ i) (h12 : i < 12) : g i.toNat = g0 i.toNat := (h i.toNat (by omega)).2 (by omega)
theorem PWI.step {V : Nat → Int} {g0 g g' : Nat → Int32} {i i' : Int} (h : PWI V g0 g i) (hi : i' = i + 1) (h0 : 0 ≤ i) (hf : ∀ j : Nat, ¬ j = i.toNat → g' j = g j) (hv : (g' i.toNat).toInt = V i.toNat) : PWI V g0 g' i' := fun j hj => by
  by_cases e : j = i.toNat
  · rw [e]; exact ⟨fun _ => hv, fun z => absurd z (by omega)⟩
  · rw [hf j e]; exact ⟨fun z => (h j hj).1 (by omega), fun z => (h j hj).2 (by omega)⟩
theorem PWI.fin {V : Nat → Int} {g0 g : Nat → Int32} {i : Int} (h : PWI V g0 g i) (hi : 12 ≤ i) : ∀ j : Nat, j < 12 → (g j).toInt = V j := fun j hj => (h j hj).1 (by omega)
/-- those above a ware come one down; a gap is closed -/
def snk (sh st lv : Nat → Int32) (w j : Nat) : Int := if sh j = sh w ∧ st j = st w ∧ (lv w).toInt < (lv j).toInt then (lv j).toInt - 1 else (lv j).toInt
def gpf (sh st : Nat → Int32) (s k : Int32) (j : Nat) : Int := if sh j = s ∧ k.toInt < (st j).toInt then (st j).toInt - 1 else (st j).toInt
theorem snk_low {sh st lv g : Nat → Int32} {w : Nat} {i : Int} (h : PWI (snk sh st lv w) lv g i) (hw : w < 12) : (g w).toInt = (lv w).toInt := by
  rcases Int.lt_or_le (w : Int) i with q | q
  · rw [(h w hw).1 q]; exact if_neg (fun z => by have := z.2.2; omega)
  · rw [(h w hw).2 q]
/-- whether a ware is out -/
def oT (sh : Nat → Int32) (w : Nat) : Bool := decide ((sh w).toInt = -1)
theorem oT_iff {sh : Nat → Int32} {w : Nat} : oT sh w = true ↔ (sh w).toInt = -1 := decide_eq_true_iff
/-- how much higher a foot is, by the class's rows -/
def rsC (wd dp : Nat → Int32) (lids : Int32) (u l : Nat) : Int32 := if (wd u).toInt < (wd l).toInt ∧ BT lids l = false then 1 else dp l
theorem ftF_s (rs : Nat → Nat → Int32) (r : Nat → Int32) (p : Nat) : ftF rs r (p + 1) = ftF rs r p + rs (r (p + 1)).toInt.toNat (r p).toInt.toNat := rfl
theorem hiF_s (rs : Nat → Nat → Int32) (dp r : Nat → Int32) (n : Nat) : hiF rs dp r (n + 1) = if hiF rs dp r n < ftF rs r n + dp (r n).toInt.toNat then ftF rs r n + dp (r n).toInt.toNat else hiF rs dp r n := rfl
/-- what drawing the one at a level costs -/
def prC (wt r : Nat → Int32) (p n rc : Int32) : Int32 := wt (r p.toInt.toNat).toInt.toNat + rc + 2 * (wtF wt r (p.toInt.toNat + 1) n.toInt.toNat + rc * (n - 1 - p))
theorem prC_cong {wt wt' r r' : Nat → Int32} {p n rc : Int32} (h0 : 0 ≤ p.toInt) (hp : p.toInt < n.toInt) (h : ∀ q : Nat, (q : Int) < n.toInt → wt (r q).toInt.toNat = wt' (r' q).toInt.toNat) : prC wt r p n rc = prC wt' r' p n rc := by
  unfold prC
  rw [h p.toInt.toNat (by omega), wtF_cong (wt := wt) (wt' := wt') (r := r) (r' := r') _ (fun q _ h2 => h q (by omega))]

def IM (a b : Prop) : Prop := a → b
def OR2 (a b : Prop) : Prop := a ∨ b
theorem ROW.inj {sh st lv : Nat → Int32} {s k : Int32} {r : Nat → Int32} {n : Nat} (h : ROW sh st lv s k r n) {w v : Nat} (hw : w < 12) (hv : v < 12) (w1 : sh w = s) (w2 : st w = k) (v1 : sh v = s) (v2 : st v = k) (e : (lv w).toInt.toNat = (lv v).toInt.toNat) : w = v := by
  have a := (h.1 w hw w1 w2).2.2
  have b := (h.1 v hv v1 v2).2.2
  rw [e] at a; omega
/-- behind a removal: the stacks; behind a move: shelves and stacks -/
def rmS (sh st : Nat → Int32) (s k : Int32) (j : Nat) : Int := if cnB (std sh st s k) 12 = 0 then gpf sh st s k j else (st j).toInt
def mvS (sh st : Nat → Int32) (s k t : Int32) (j : Nat) : Int := if sh j = s ∧ st j = k then t.toInt else (sh j).toInt
def mvT (sh st : Nat → Int32) (s k c : Int32) (j : Nat) : Int := if sh j = s ∧ st j = k then c.toInt else (st j).toInt
def mvG (sh st : Nat → Int32) (s k t c : Int32) (j : Nat) : Int := if mvS sh st s k t j = s.toInt ∧ k.toInt < mvT sh st s k c j then mvT sh st s k c j - 1 else mvT sh st s k c j
theorem gpf_mv {sh st g1 g2 : Nat → Int32} {s k t c : Int32} {j : Nat} (h1 : (g1 j).toInt = mvS sh st s k t j) (h2 : (g2 j).toInt = mvT sh st s k c j) : gpf g1 g2 s k j = mvG sh st s k t c j := by
  unfold gpf mvG
  rw [h2]
  by_cases q : g1 j = s
  · have e : mvS sh st s k t j = s.toInt := by rw [← h1, q]
    by_cases z : k.toInt < mvT sh st s k c j
    · rw [if_pos ⟨q, z⟩, if_pos ⟨e, z⟩]
    · rw [if_neg (fun y => z y.2), if_neg (fun y => z y.2)]
  · rw [if_neg (fun y => q y.1), if_neg (fun y => q ((i_eq _ _).mpr (h1.trans y.1)))]
def rsS (sh st lv : Nat → Int32) (w j : Nat) : Int := if j = w then ((cnB (std sh st (sh w) (st w)) 12 : Nat) : Int) - 1 else snk sh st lv w j

/-- the reference's rows of what is told -/
def wtM (t : Nat → Int32) (j : Nat) : Int32 := t (3 + 8 * j + 2)
def brM (t : Nat → Int32) (j : Nat) : Int32 := t (3 + 8 * j + 3)
def dpM (t : Nat → Int32) (j : Nat) : Int32 := t (3 + 8 * j + 1)
def rsM (t : Nat → Int32) (u l : Nat) : Int32 := if (t (3 + 8 * u)).toInt < (t (3 + 8 * l)).toInt ∧ (t (3 + 8 * l + 6)).toInt = 0 then 1 else t (3 + 8 * l + 1)
/-- no such stack -/
def NST (r s k ns c : Int) : Prop := r = 0 → ¬ (0 ≤ s ∧ s < ns ∧ 0 ≤ k ∧ k < c)

/-- the first of the reasons; a guarded answer -/
def PUTR (ok out full : Prop) (R : Int → Prop) (x : Int) : Prop := (x = 1 ∧ ¬ ok) ∨ (ok ∧ ((x = 2 ∧ ¬ out) ∨ (out ∧ ((x = 3 ∧ full) ∨ (¬ full ∧ R x)))))
theorem PUTR.eq {ok ok' out out' full full' : Prop} {R R' : Int → Prop} {x y : Int} (a : PUTR ok out full R x) (b : PUTR ok' out' full' R' y) (h1 : ok ↔ ok') (h2 : ok → (out ↔ out')) (h3 : ok → out → (full ↔ full')) (h4 : ok → out → ¬ full → R x → R' y → x = y) : x = y := by
  rcases a with ⟨a1, a2⟩ | ⟨a2, ⟨a1, a3⟩ | ⟨a3, ⟨a1, a4⟩ | ⟨a4, a5⟩⟩⟩
  · rcases b with ⟨b1, b2⟩ | ⟨b2, _⟩
    · exact a1.trans b1.symm
    · exact absurd (h1.mpr b2) a2
  · rcases b with ⟨b1, b2⟩ | ⟨b2, ⟨b1, b3⟩ | ⟨b3, _⟩⟩
    · exact absurd (h1.mp a2) b2
    · exact a1.trans b1.symm
    · exact absurd ((h2 a2).mpr b3) a3
  · rcases b with ⟨b1, b2⟩ | ⟨b2, ⟨b1, b3⟩ | ⟨b3, ⟨b1, b4⟩ | ⟨b4, b5⟩⟩⟩
    · exact absurd (h1.mp a2) b2
    · exact absurd ((h2 a2).mp a3) b3
    · exact a1.trans b1.symm
    · exact absurd ((h3 a2 a3).mp a4) b4
  · rcases b with ⟨b1, b2⟩ | ⟨b2, ⟨b1, b3⟩ | ⟨b3, ⟨b1, b4⟩ | ⟨b4, b5⟩⟩⟩
    · exact absurd (h1.mp a2) b2
    · exact absurd ((h2 a2).mp a3) b3
    · exact absurd ((h3 a2 a3).mpr b4) a4
    · exact h4 a2 a3 a4 a5 b5
theorem PUTR.yes {ok out full : Prop} {R : Int → Prop} {x : Int} (h : PUTR ok out full R x) (h1 : ¬ x = 1) (h2 : ¬ x = 2) (h3 : ¬ x = 3) : ok ∧ out ∧ ¬ full ∧ R x := by
  rcases h with ⟨a1, _⟩ | ⟨a2, ⟨a1, _⟩ | ⟨a3, ⟨a1, _⟩ | ⟨a4, a5⟩⟩⟩
  · exact absurd a1 h1
  · exact absurd a1 h2
  · exact absurd a1 h3
  · exact ⟨a2, a3, a4, a5⟩
def RFP (c R : Prop) (x : Int) : Prop := (x = 3 ∧ c) ∨ (¬ c ∧ R)
def OKP (w s k nw ns c : Int) : Prop := (0 ≤ w ∧ w < nw) ∧ (0 ≤ s ∧ s < ns) ∧ -1 ≤ k ∧ k < c
def plc (k c : Int) : Int := if k = -1 then c else k
theorem RFZ.cg {M : Nat → Nat → Bool} {wt br dp : Nat → Int32} {rs : Nat → Nat → Int32} {q r : Nat → Int32} {m n : Nat} {h : Int32} {x : Int} (a : RFZ M wt br dp rs q m h x) (hm : m = n) (e : ∀ p, p < n → q p = r p) : RFZ M wt br dp rs r n h x := by
  subst hm
  exact a.cong rfl (fun p hp => by rw [e p (by omega), e (p + 1) hp]) (fun p hp => by rw [e p hp]) (fun p hp => by rw [e p hp]) (fun p hp => by rw [e p hp]) (fun p hp => by rw [e p (by omega), e (p + 1) hp])
def GRD (ok : Prop) (d : Int) (R : Int → Prop) (x : Int) : Prop := (x = d ∧ ¬ ok) ∨ (ok ∧ R x)
theorem GRD.eq {ok ok' : Prop} {d : Int} {R R' : Int → Prop} {x y : Int} (a : GRD ok d R x) (b : GRD ok' d R' y) (h1 : ok ↔ ok') (h2 : ok → R x → R' y → x = y) : x = y := by
  rcases a with ⟨a1, a2⟩ | ⟨a1, a2⟩
  · rcases b with ⟨b1, b2⟩ | ⟨b1, b2⟩
    · exact a1.trans b1.symm
    · exact absurd (h1.mpr b1) a2
  · rcases b with ⟨b1, b2⟩ | ⟨b1, b2⟩
    · exact absurd (h1.mp a1) b2
    · exact h2 a1 a2 b2
/-- a stack is there -/
def YST (r s k ns c : Int) : Prop := r = 1 → 0 ≤ s ∧ s < ns ∧ 0 ≤ k ∧ k < c

/-- what is answered of a stack, of where a ware is, of a shelf -/
def skF (p n h w : Int) : Int := if p = 0 then n else if p = 1 then h else if p = 2 then w else -1
def whF (p a b c d e : Int) : Int := if p = 0 then a else if p = 1 then b else if p = 2 then c else if p = 3 then d else if p = 4 then e else -1
def shF (p a b c d : Int) : Int := if p = 0 then a else if p = 1 then b else if p = 2 then c else if p = 3 then d else -1
def coF (p a b c d e f : Int) : Int := if p = 0 then a else if p = 1 then b else if p = 2 then c else if p = 3 then d else if p = 4 then e else if p = 5 then f else -1
def atF (p : Int32) (r : Nat → Int32) (n : Int) : Int := if 0 ≤ p.toInt ∧ p.toInt < n then (r p.toInt.toNat).toInt else -1

/-- what drawing the one at q costs, as the reference adds it up -/
def lcF (wt r : Nat → Int32) (rc : Int32) (q : Nat) : Nat → Int32
  | 0 => 0
  | n + 1 => if q ≤ n then lcF wt r rc q n + (if n = q then 1 else 2) * (wt (r n).toInt.toNat + rc) else 0
theorem lcF_s (wt r : Nat → Int32) (rc : Int32) (q n : Nat) : lcF wt r rc q (n + 1) = if q ≤ n then lcF wt r rc q n + (if n = q then 1 else 2) * (wt (r n).toInt.toNat + rc) else 0 := rfl
theorem lcF_0 (wt r : Nat → Int32) (rc : Int32) {q n : Nat} (h : n ≤ q) : lcF wt r rc q n = 0 := by
  cases n with
  | zero => rfl
  | succ n => exact if_neg (by omega)
theorem lcF_cong {wt wt' r r' : Nat → Int32} {rc : Int32} {q : Nat} : ∀ n, (∀ p, q ≤ p → p < n → wt (r p).toInt.toNat = wt' (r' p).toInt.toNat) → lcF wt r rc q n = lcF wt' r' rc q n := by
  intro n
  induction n with
  | zero => intro _; rfl
  | succ n ih =>
    intro h
    rw [lcF_s, lcF_s]
    by_cases z : q ≤ n
    · rw [if_pos z, if_pos z, ih (fun p h1 h2 => h p h1 (by omega)), h n z (by omega)]
    · rw [if_neg z, if_neg z]
theorem rg_1 (w c m p a : Int32) : a = 0 → m = p → w + c + 2 * (a + c * (m + 1 - 1 - p)) = 0 + 1 * (w + c) := by
  intro h1 h2; subst h1; subst h2; grind
theorem rg_2 (w c m p a b : Int32) : w + c + 2 * ((a + b) + c * (m + 1 - 1 - p)) = (w + c + 2 * (a + c * (m - 1 - p))) + 2 * (b + c) := by grind

/-- a sum of n numbers, the j-th one as P says -/
def SR (P : Nat → Int32 → Prop) : Nat → Int32 → Prop
  | 0, x => x = 0
  | n + 1, x => ∃ y z : Int32, SR P n y ∧ P n z ∧ x = y + z
theorem SR.zero {P : Nat → Int32 → Prop} {n : Nat} {x : Int32} (hn : n = 0) (hx : x = 0) : SR P n x := by subst hn; exact hx
theorem SR.step {P : Nat → Int32 → Prop} {n m : Nat} {x y z : Int32} (h : SR P n y) (hm : m = n + 1) (hz : P n z) (e : x = y + z) : SR P m x := by subst hm; exact ⟨y, z, h, hz, e⟩
theorem SR.skip {P : Nat → Int32 → Prop} {n m : Nat} {x : Int32} (h : SR P n x) (hm : m = n + 1) (hz : P n 0) : SR P m x := h.step hm hz (Int32.add_zero x).symm
theorem SR.uniq {P Q : Nat → Int32 → Prop} : ∀ (n : Nat) (x y : Int32), (∀ j : Nat, j < n → ∀ a b : Int32, P j a → Q j b → a = b) → SR P n x → SR Q n y → x = y := by
  intro n
  induction n with
  | zero => intro x y _ h1 h2; exact (show x = 0 from h1).trans (show y = 0 from h2).symm
  | succ n ih =>
    intro x y h h1 h2
    obtain ⟨a, b, h3, h4, h5⟩ := h1
    obtain ⟨c, d, h6, h7, h8⟩ := h2
    rw [h5, h8, ih a c (fun j hj => h j (by omega)) h3 h6, h n (by omega) b d h4 h7]
/-- what lifting a ware costs: the class; nothing if it is out -/
def pAC (wt rc sh st lv : Nat → Int32) (w : Nat) (z : Int32) : Prop := ((sh w).toInt = -1 ∧ z = 0) ∨ (¬ (sh w).toInt = -1 ∧ ∀ (r : Nat → Int32) (n : Nat), ROW sh st lv (sh w) (st w) r n → z = prC wt r (lv w) (nI n) (rc (sh w).toInt.toNat))
def pAA (wt rc sh st lv as : Nat → Int32) (j : Nat) (z : Int32) : Prop := pAC wt rc sh st lv (as j).toInt.toNat z
def pHC (hb wt rc sh st lv : Nat → Int32) (j : Nat) (z : Int32) : Prop := ∃ y : Int32, pAC wt rc sh st lv j y ∧ z = hb j * y
theorem pHC.out {hb wt rc sh st lv : Nat → Int32} {j : Nat} (h : (sh j).toInt = -1) : pHC hb wt rc sh st lv j 0 := ⟨0, Or.inl ⟨h, rfl⟩, by rw [Int32.mul_zero]⟩
def sumF (h : Nat → Int32) : Nat → Int32
  | 0 => 0
  | n + 1 => sumF h n + h n
theorem sumF_s (h : Nat → Int32) (n : Nat) : sumF h (n + 1) = sumF h n + h n := rfl
theorem sumF_cong {h h' : Nat → Int32} : ∀ n, (∀ j, j < n → h j = h' j) → sumF h n = sumF h' n := by
  intro n
  induction n with
  | zero => intro _; rfl
  | succ n ih => intro e; rw [sumF_s, sumF_s, ih (fun j hj => e j (by omega)), e n (by omega)]
/-- the greatest common divisor's rounds -/
def eu : Nat → Int32 → Int32 → Int32
  | 0, a, _ => a
  | n + 1, a, b => if b = 0 then a else eu n b (a - a / b * b)
theorem eu_z (a : Int32) : ∀ n, eu n a 0 = a := by
  intro n
  cases n with
  | zero => rfl
  | succ n => exact if_pos rfl
theorem eu_s {n : Nat} {a b : Int32} (h : ¬ b = 0) : eu (n + 1) a b = eu n b (a - a / b * b) := if_neg h
/-- from a, b the rounds have come to x, y -/
def EUK (a b x y : Int32) : Prop := ∃ k : Nat, ∀ n : Nat, eu (n + k) a b = eu n x y
theorem EUK.rf (a b : Int32) : EUK a b a b := ⟨0, fun n => rfl⟩
theorem EUK.step {a b x y z : Int32} (h : EUK a b x y) (hy : ¬ y = 0) (e : x - x / y * y = z) : EUK a b y z := by
  obtain ⟨k, h⟩ := h
  refine ⟨k + 1, fun n => ?_⟩
  rw [show n + (k + 1) = n + 1 + k by omega, h (n + 1), eu_s hy, e]
theorem remP9 {x y z : Int32} (e : x - x / y * y = z) (hx : 0 ≤ x.toInt) (hy : 0 < y.toInt) : 0 ≤ z.toInt ∧ z.toInt < y.toInt ∧ (y.toInt ≤ x.toInt → z.toInt + y.toInt ≤ x.toInt) := by
  have bx := i_bd x
  have q0 : 0 ≤ x.toInt.tdiv y.toInt := Int.tdiv_nonneg hx (by omega)
  have q1 : x.toInt.tdiv y.toInt ≤ x.toInt := Int.tdiv_le_self _ hx
  have d : (x / y).toInt = x.toInt.tdiv y.toInt := by
    rw [Int32.toInt_div]; exact fb_bmod (by omega) (by omega)
  have r0 : 0 ≤ x.toInt.tmod y.toInt := Int.tmod_nonneg _ hx
  have r1 : x.toInt.tmod y.toInt < y.toInt := Int.tmod_lt_of_pos _ hy
  have s : y.toInt * x.toInt.tdiv y.toInt + x.toInt.tmod y.toInt = x.toInt := Int.mul_tdiv_add_tmod _ _
  have q2 : 0 ≤ y.toInt * x.toInt.tdiv y.toInt := Int.mul_nonneg (by omega) q0
  have m : (x / y * y).toInt = y.toInt * x.toInt.tdiv y.toInt := by
    rw [fb_mulI (by rw [d, Int.mul_comm]; omega) (by rw [d, Int.mul_comm]; omega), d, Int.mul_comm]
  rw [← e, fb_subI (by rw [m]; omega) (by rw [m]; omega), m]
  refine ⟨by omega, by omega, fun hyx => ?_⟩
  have q3 : 1 ≤ x.toInt.tdiv y.toInt := by
    rcases Int.lt_or_le 0 (x.toInt.tdiv y.toInt) with q | q
    · omega
    · exfalso
      have z : x.toInt.tdiv y.toInt = 0 := by omega
      rw [z, Int.mul_zero] at s; omega
  have q4 : y.toInt * 1 ≤ y.toInt * x.toInt.tdiv y.toInt := Int.mul_le_mul_of_nonneg_left q3 (by omega)
  omega
theorem eu_fix : ∀ (m : Nat) (a b : Int32), 0 ≤ a.toInt → 0 ≤ b.toInt → b.toInt < 2 ^ m → ∀ n, eu (n + 2 * m) a b = eu (2 * m) a b := by
  intro m
  induction m with
  | zero =>
    intro a b _ h0 h1 n
    have e : b = 0 := (i_eq _ _).mpr (by have z : (0 : Int32).toInt = 0 := rfl; omega)
    rw [e, eu_z, eu_z]
  | succ m ih =>
    intro a b ha h0 h1 n
    by_cases e : b = 0
    · rw [e, eu_z, eu_z]
    · have l0 : (0 : Int32).toInt = 0 := rfl
      have b0 : 0 < b.toInt := by rw [i_eq] at e; omega
      obtain ⟨r, er⟩ : ∃ r, a - a / b * b = r := ⟨_, rfl⟩
      have hr := remP9 er ha b0
      rw [show n + 2 * (m + 1) = n + 2 * m + 1 + 1 by omega, show 2 * (m + 1) = 2 * m + 1 + 1 by omega, eu_s e, eu_s e, er]
      by_cases z : r = 0
      · rw [z, eu_z, eu_z]
      · have r0 : 0 < r.toInt := by rw [i_eq] at z; omega
        obtain ⟨r', er'⟩ : ∃ r', b - b / r * r = r' := ⟨_, rfl⟩
        have hr' := remP9 er' h0 r0
        have h3 := hr'.2.2 (by omega)
        rw [eu_s z, eu_s z, er']
        have e2 : (2 : Int) ^ (m + 1) = 2 ^ m * 2 := Int.pow_succ ..
        exact ih r r' (by omega) hr'.1 (by omega) n
/-- both come to the same: at most 64 rounds are needed -/
theorem eu_64 {a b d : Int32} (ha : 0 ≤ a.toInt) (h0 : 0 ≤ b.toInt) (h1 : b.toInt ≤ 11988) (h : EUK a b d 0) : eu 64 a b = d := by
  obtain ⟨k, h⟩ := h
  have y := h 28
  rw [eu_z, show 28 + k = k + 2 * 14 by omega, eu_fix 14 a b ha h0 (by have : (2 : Int) ^ 14 = 16384 := rfl; omega)] at y
  rw [show 64 = 36 + 2 * 14 from rfl, eu_fix 14 a b ha h0 (by have : (2 : Int) ^ 14 = 16384 := rfl; omega)]
  exact y
/-- by habit: what is answered -/
def haC (p : Int32) (ab be : Int32) (x : Int) : Prop := GRD (¬ be = 0 ∧ 0 ≤ p.toInt ∧ p.toInt ≤ 1) (-1) (fun x => (eu 64 ab be = 0 ∧ x = -1) ∨ (¬ eu 64 ab be = 0 ∧ x = ((if p = 0 then ab else be) / eu 64 ab be).toInt)) x
def haM (p : Int32) (ab be : Int32) (x : Int) : Prop := GRD (¬ be = 0 ∧ 0 ≤ p.toInt ∧ p.toInt ≤ 1) (-1) (fun x => ∃ d : Int32, EUK ab be d 0 ∧ ¬ d = 0 ∧ x = ((if p = 0 then ab else be) / d).toInt) x
theorem ha_eq {p ab be : Int32} {x y : Int} (a : haC p ab be x) (b : haM p ab be y) (ha : 0 ≤ ab.toInt) (h0 : 0 ≤ be.toInt) (h1 : be.toInt ≤ 11988) : x = y :=
  GRD.eq a b Iff.rfl (fun _ a b => by
    obtain ⟨d, b1, b2, b3⟩ := b
    have e := eu_64 ha h0 h1 b1
    rcases a with ⟨a1, _⟩ | ⟨_, a2⟩
    · rw [e] at a1; exact absurd a1 b2
    · rw [a2, b3, e])
theorem wd_0 : Cond.fieldLink RX9 42 "BowlShelf$Told" "wares" "I" ∈ WALL := wl_in (by decide +kernel) (by decide +kernel)
theorem wd_1 : Cond.fieldLink RX9 46 "BowlShelf$Told" "shelves" "I" ∈ WALL := wl_in (by decide +kernel) (by decide +kernel)
theorem wd_2 : Cond.fieldLink RX7 9 "BowlShelf$Standing" "shelf" "[I" ∈ WALL := wl_in (by decide +kernel) (by decide +kernel)
theorem wd_3 : Cond.fieldLink RX7 15 "BowlShelf$Standing" "stack" "[I" ∈ WALL := wl_in (by decide +kernel) (by decide +kernel)
theorem dX9_isWare_0 : decode cX9_isWare 0 = .ok (.iload_n 1, 1) := by decide +kernel
theorem dX9_isWare_1 : decode cX9_isWare 1 = .ok (.ifCond .lt 15, 3) := by decide +kernel
theorem dX9_isWare_4 : decode cX9_isWare 4 = .ok (.iload_n 1, 1) := by decide +kernel
theorem dX9_isWare_5 : decode cX9_isWare 5 = .ok (.aload_n 0, 1) := by decide +kernel
theorem dX9_isWare_6 : decode cX9_isWare 6 = .ok (.getfield 42, 3) := by decide +kernel
theorem dX9_isWare_9 : decode cX9_isWare 9 = .ok (.if_icmp .ge 7, 3) := by decide +kernel
theorem dX9_isWare_12 : decode cX9_isWare 12 = .ok (.iconst 1, 1) := by decide +kernel
theorem dX9_isWare_13 : decode cX9_isWare 13 = .ok (.goto 4, 3) := by decide +kernel
theorem dX9_isWare_16 : decode cX9_isWare 16 = .ok (.iconst 0, 1) := by decide +kernel
theorem dX9_isWare_17 : decode cX9_isWare 17 = .ok (.ireturn, 1) := by decide +kernel
theorem dX9_isShelf_0 : decode cX9_isShelf 0 = .ok (.iload_n 1, 1) := by decide +kernel
theorem dX9_isShelf_1 : decode cX9_isShelf 1 = .ok (.ifCond .lt 15, 3) := by decide +kernel
theorem dX9_isShelf_4 : decode cX9_isShelf 4 = .ok (.iload_n 1, 1) := by decide +kernel
theorem dX9_isShelf_5 : decode cX9_isShelf 5 = .ok (.aload_n 0, 1) := by decide +kernel
theorem dX9_isShelf_6 : decode cX9_isShelf 6 = .ok (.getfield 46, 3) := by decide +kernel
theorem dX9_isShelf_9 : decode cX9_isShelf 9 = .ok (.if_icmp .ge 7, 3) := by decide +kernel
theorem dX9_isShelf_12 : decode cX9_isShelf 12 = .ok (.iconst 1, 1) := by decide +kernel
theorem dX9_isShelf_13 : decode cX9_isShelf 13 = .ok (.goto 4, 3) := by decide +kernel
theorem dX9_isShelf_16 : decode cX9_isShelf 16 = .ok (.iconst 0, 1) := by decide +kernel
theorem dX9_isShelf_17 : decode cX9_isShelf 17 = .ok (.ireturn, 1) := by decide +kernel
theorem dX7_isOut_0 : decode cX7_isOut 0 = .ok (.aload_n 0, 1) := by decide +kernel
theorem dX7_isOut_1 : decode cX7_isOut 1 = .ok (.getfield 9, 3) := by decide +kernel
theorem dX7_isOut_4 : decode cX7_isOut 4 = .ok (.iload_n 1, 1) := by decide +kernel
theorem dX7_isOut_5 : decode cX7_isOut 5 = .ok (.iaload, 1) := by decide +kernel
theorem dX7_isOut_6 : decode cX7_isOut 6 = .ok (.iconst (-1), 1) := by decide +kernel
theorem dX7_isOut_7 : decode cX7_isOut 7 = .ok (.if_icmp .ne 7, 3) := by decide +kernel
theorem dX7_isOut_10 : decode cX7_isOut 10 = .ok (.iconst 1, 1) := by decide +kernel
theorem dX7_isOut_11 : decode cX7_isOut 11 = .ok (.goto 4, 3) := by decide +kernel
theorem dX7_isOut_14 : decode cX7_isOut 14 = .ok (.iconst 0, 1) := by decide +kernel
theorem dX7_isOut_15 : decode cX7_isOut 15 = .ok (.ireturn, 1) := by decide +kernel
theorem dX7_stands_0 : decode cX7_stands 0 = .ok (.aload_n 0, 1) := by decide +kernel
theorem dX7_stands_1 : decode cX7_stands 1 = .ok (.getfield 9, 3) := by decide +kernel
theorem dX7_stands_4 : decode cX7_stands 4 = .ok (.iload_n 1, 1) := by decide +kernel
theorem dX7_stands_5 : decode cX7_stands 5 = .ok (.iaload, 1) := by decide +kernel
theorem dX7_stands_6 : decode cX7_stands 6 = .ok (.iload_n 2, 1) := by decide +kernel
theorem dX7_stands_7 : decode cX7_stands 7 = .ok (.if_icmp .ne 17, 3) := by decide +kernel
theorem dX7_stands_10 : decode cX7_stands 10 = .ok (.aload_n 0, 1) := by decide +kernel
theorem dX7_stands_11 : decode cX7_stands 11 = .ok (.getfield 15, 3) := by decide +kernel
theorem dX7_stands_14 : decode cX7_stands 14 = .ok (.iload_n 1, 1) := by decide +kernel
theorem dX7_stands_15 : decode cX7_stands 15 = .ok (.iaload, 1) := by decide +kernel
theorem dX7_stands_16 : decode cX7_stands 16 = .ok (.iload_n 3, 1) := by decide +kernel
theorem dX7_stands_17 : decode cX7_stands 17 = .ok (.if_icmp .ne 7, 3) := by decide +kernel
theorem dX7_stands_20 : decode cX7_stands 20 = .ok (.iconst 1, 1) := by decide +kernel
theorem dX7_stands_21 : decode cX7_stands 21 = .ok (.goto 4, 3) := by decide +kernel
theorem dX7_stands_24 : decode cX7_stands 24 = .ok (.iconst 0, 1) := by decide +kernel
theorem dX7_stands_25 : decode cX7_stands 25 = .ok (.ireturn, 1) := by decide +kernel
theorem ndX0 : ∀ j, j < 5 → defaultValue (tyX0 j) = vp_V [.int 0, .int 0, .null, .null, .null] j := by decide +kernel
theorem ndX1 : ∀ j, j < 5 → defaultValue (tyX1 j) = vp_V [.int 0, .int 0, .null, .null, .null] j := by decide +kernel
theorem ndX2 : ∀ j, j < 1 → defaultValue (tyX2 j) = vp_V [.null] j := by decide +kernel
theorem ndX3 : ∀ j, j < 8 → defaultValue (tyX3 j) = vp_V [.int 0, .null, .null, .int 0, .int 0, .int 0, .null, .null] j := by decide +kernel
theorem ndX4 : ∀ j, j < 2 → defaultValue (tyX4 j) = vp_V [.null, .int 0] j := by decide +kernel
theorem ndX5 : ∀ j, j < 7 → defaultValue (tyX5 j) = vp_V [.null, .null, .null, .null, .null, .int 0, .int 0] j := by decide +kernel
theorem ndX6 : ∀ j, j < 8 → defaultValue (tyX6 j) = vp_V [.null, .int 0, .int 0, .int 0, .int 0, .int 0, .null, .null] j := by decide +kernel
theorem ndX7 : ∀ j, j < 7 → defaultValue (tyX7 j) = vp_V [.null, .null, .null, .null, .int 0, .int 0, .int 0] j := by decide +kernel
theorem ndX8 : ∀ j, j < 6 → defaultValue (tyX8 j) = vp_V [.null, .int 0, .int 0, .int 0, .int 0, .int 0] j := by decide +kernel
theorem ndX9 : ∀ j, j < 15 → defaultValue (tyX9 j) = vp_V [.int 0, .int 0, .int 0, .null, .null, .null, .null, .null, .null, .int 0, .int 0, .null, .null, .null, .null] j := by decide +kernel
theorem ndX10 : ∀ j, j < 10 → defaultValue (tyX10 j) = vp_V [.null, .null, .null, .null, .null, .null, .null, .null, .null, .null] j := by decide +kernel
theorem ndX11 : ∀ j, j < 43 → defaultValue (tyX11 j) = vp_V [.int 0, .null, .int 0, .int 0, .null, .null, .null, .int 0, .int 0, .null, .null, .null, .null, .int 0, .null, .null, .int 0, .null, .null, .null, .null, .null, .int 0, .int 0, .int 0, .null, .int 0, .null, .null, .null, .null, .null, .null, .int 0, .int 0, .int 0, .null, .null, .int 0, .int 0, .int 0, .int 0, .null] j := by decide +kernel
set_option maxHeartbeats 4000000 in
set_option maxRecDepth 100000 in
theorem c_X9_isWare (l : Launch) (D : DG) (cyC cyI cyJ cyZ cyO : ClassId) (a0 : Nat) (a1 : Nat) (a2 : Nat) (a3 : Nat) (a4 : Nat) (a5 : Nat) (a6 : Nat) (a7 : Nat) (a8 : Nat) (a9 : Nat) (a10 : Nat) (p0 : Int32) (a_wares : Int32) (a_shelves : Int32) (a_nests : Int32) (a_lids : Int32) (a_tops : Int32) (h_a_wares : 0 ≤ (a_wares).toInt ∧ (a_wares).toInt ≤ 12) (h_a_shelves : 0 ≤ (a_shelves).toInt ∧ (a_shelves).toInt ≤ 4) (h_a_nests : 0 ≤ (a_nests).toInt ∧ (a_nests).toInt ≤ 4) : KK l D (TY cyC cyI cyJ cyZ cyO) yX9_isWare cX9_isWare 2 (some .boolean) ({ frames := 0, cells := 0, slots := 0, locals := 0 } : Room) 0 0 [.ref a0, .int p0] [(a0, .inr (9, [.int a_wares, .int a_shelves, .int a_nests, .ref a1, .ref a2, .ref a3, .ref a4, .ref a5, .ref a6, .int a_lids, .int a_tops, .ref a7, .ref a8, .ref a9, .ref a10]))] (fun u => some (.int (u.2.1 0))) (fun u => (0 ≤ (u.2.1 0).toInt ∧ (u.2.1 0).toInt ≤ 1) ∧ ((u.2.1 0).toInt = 0 ∨ 0 ≤ (p0).toInt ∧ (p0).toInt < (a_wares).toInt) ∧ ((u.2.1 0).toInt = 1 ∨ (p0).toInt < 0 ∨ (a_wares).toInt ≤ (p0).toInt)) (fun u => [(a0, .inr (9, [.int a_wares, .int a_shelves, .int a_nests, .ref a1, .ref a2, .ref a3, .ref a4, .ref a5, .ref a6, .int a_lids, .int a_tops, .ref a7, .ref a8, .ref a9, .ref a10]))]) := by
  refine KK.of (lv0 := [(0, .ref a0), (1, .int p0)]) (by decide) rfl (Nat.le_of_ble_eq_true rfl) ?_
  intro p e s m args below meth c A C hr hk hin
  refine j_iload_n (pc := 0) C dX9_isWare_0 rfl 1 rfl ?_
  refine j_if_lt (pc := 1) (tgt := 16) C dX9_isWare_1 (by decide) (fun c_1 => ?_) (fun c_1 => ?_)
  · skip
    have el_0 : (0 : Int32).toInt = 0 := rfl
    rw [i_lt] at c_1
    refine j_iconst (pc := 16) (v := 0) C dX9_isWare_16 (by decide) ?_
    have el_0 : (0 : Int32).toInt = 0 := rfl
    have el_0 : (0 : Int32).toInt = 0 := rfl
    have el_0 : (0 : Int32).toInt = 0 := rfl
    exact j_zret (pc := 17) C hr rfl hk (fun i => [].getD i 0, fun i => [0].getD i 0, fun i => [].getD i (fun _ => 0), fun i => [].getD i (fun _ => 0)) rfl (show (0 ≤ ((0 : Int32)).toInt ∧ ((0 : Int32)).toInt ≤ 1) ∧ ((0 : Int32).toInt = 0 ∨ 0 ≤ (p0).toInt ∧ (p0).toInt < (a_wares).toInt) ∧ ((0 : Int32).toInt = 1 ∨ (p0).toInt < 0 ∨ (a_wares).toInt ≤ (p0).toInt) from ⟨by omega, by omega, by omega⟩) [0] (by decide) rfl (by decide) (by decide) dX9_isWare_17
  · skip
    have el_0 : (0 : Int32).toInt = 0 := rfl
    rw [i_lt] at c_1
    refine j_iload_n (pc := 4) C dX9_isWare_4 rfl 1 rfl ?_
    refine j_aload_n (pc := 5) C dX9_isWare_5 rfl 0 rfl ?_
    refine j_get (pc := 6) (ci := 9) (v := .int a_wares) C inw_9 0 rfl rfl 0 (by decide) wd_0 rfl rfl dX9_isWare_6 ?_
    refine j_icmp_ge (pc := 9) (tgt := 16) C dX9_isWare_9 (by decide) (fun c_2 => ?_) (fun c_2 => ?_)
    · skip
      rw [i_le] at c_2
      refine j_iconst (pc := 16) (v := 0) C dX9_isWare_16 (by decide) ?_
      have el_0 : (0 : Int32).toInt = 0 := rfl
      have el_0 : (0 : Int32).toInt = 0 := rfl
      have el_0 : (0 : Int32).toInt = 0 := rfl
      exact j_zret (pc := 17) C hr rfl hk (fun i => [].getD i 0, fun i => [0].getD i 0, fun i => [].getD i (fun _ => 0), fun i => [].getD i (fun _ => 0)) rfl (show (0 ≤ ((0 : Int32)).toInt ∧ ((0 : Int32)).toInt ≤ 1) ∧ ((0 : Int32).toInt = 0 ∨ 0 ≤ (p0).toInt ∧ (p0).toInt < (a_wares).toInt) ∧ ((0 : Int32).toInt = 1 ∨ (p0).toInt < 0 ∨ (a_wares).toInt ≤ (p0).toInt) from ⟨by omega, by omega, by omega⟩) [0] (by decide) rfl (by decide) (by decide) dX9_isWare_17
    · skip
      rw [i_le] at c_2
      refine j_iconst (pc := 12) (v := 1) C dX9_isWare_12 (by decide) ?_
      refine j_goto (pc := 13) (tgt := 17) C dX9_isWare_13 (by decide) ?_
      have el_1 : (1 : Int32).toInt = 1 := rfl
      have el_1 : (1 : Int32).toInt = 1 := rfl
      have el_1 : (1 : Int32).toInt = 1 := rfl
      exact j_zret (pc := 17) C hr rfl hk (fun i => [].getD i 0, fun i => [1].getD i 0, fun i => [].getD i (fun _ => 0), fun i => [].getD i (fun _ => 0)) rfl (show (0 ≤ ((1 : Int32)).toInt ∧ ((1 : Int32)).toInt ≤ 1) ∧ ((1 : Int32).toInt = 0 ∨ 0 ≤ (p0).toInt ∧ (p0).toInt < (a_wares).toInt) ∧ ((1 : Int32).toInt = 1 ∨ (p0).toInt < 0 ∨ (a_wares).toInt ≤ (p0).toInt) from ⟨by omega, by omega, by omega⟩) [0] (by decide) rfl (by decide) (by decide) dX9_isWare_17
set_option maxHeartbeats 4000000 in
set_option maxRecDepth 100000 in
theorem c_X9_isShelf (l : Launch) (D : DG) (cyC cyI cyJ cyZ cyO : ClassId) (a0 : Nat) (a1 : Nat) (a2 : Nat) (a3 : Nat) (a4 : Nat) (a5 : Nat) (a6 : Nat) (a7 : Nat) (a8 : Nat) (a9 : Nat) (a10 : Nat) (p0 : Int32) (a_wares : Int32) (a_shelves : Int32) (a_nests : Int32) (a_lids : Int32) (a_tops : Int32) (h_a_wares : 0 ≤ (a_wares).toInt ∧ (a_wares).toInt ≤ 12) (h_a_shelves : 0 ≤ (a_shelves).toInt ∧ (a_shelves).toInt ≤ 4) (h_a_nests : 0 ≤ (a_nests).toInt ∧ (a_nests).toInt ≤ 4) : KK l D (TY cyC cyI cyJ cyZ cyO) yX9_isShelf cX9_isShelf 2 (some .boolean) ({ frames := 0, cells := 0, slots := 0, locals := 0 } : Room) 0 0 [.ref a0, .int p0] [(a0, .inr (9, [.int a_wares, .int a_shelves, .int a_nests, .ref a1, .ref a2, .ref a3, .ref a4, .ref a5, .ref a6, .int a_lids, .int a_tops, .ref a7, .ref a8, .ref a9, .ref a10]))] (fun u => some (.int (u.2.1 0))) (fun u => (0 ≤ (u.2.1 0).toInt ∧ (u.2.1 0).toInt ≤ 1) ∧ ((u.2.1 0).toInt = 0 ∨ 0 ≤ (p0).toInt ∧ (p0).toInt < (a_shelves).toInt) ∧ ((u.2.1 0).toInt = 1 ∨ (p0).toInt < 0 ∨ (a_shelves).toInt ≤ (p0).toInt)) (fun u => [(a0, .inr (9, [.int a_wares, .int a_shelves, .int a_nests, .ref a1, .ref a2, .ref a3, .ref a4, .ref a5, .ref a6, .int a_lids, .int a_tops, .ref a7, .ref a8, .ref a9, .ref a10]))]) := by
  refine KK.of (lv0 := [(0, .ref a0), (1, .int p0)]) (by decide) rfl (Nat.le_of_ble_eq_true rfl) ?_
  intro p e s m args below meth c A C hr hk hin
  refine j_iload_n (pc := 0) C dX9_isShelf_0 rfl 1 rfl ?_
  refine j_if_lt (pc := 1) (tgt := 16) C dX9_isShelf_1 (by decide) (fun c_1 => ?_) (fun c_1 => ?_)
  · skip
    have el_0 : (0 : Int32).toInt = 0 := rfl
    rw [i_lt] at c_1
    refine j_iconst (pc := 16) (v := 0) C dX9_isShelf_16 (by decide) ?_
    have el_0 : (0 : Int32).toInt = 0 := rfl
    have el_0 : (0 : Int32).toInt = 0 := rfl
    have el_0 : (0 : Int32).toInt = 0 := rfl
    exact j_zret (pc := 17) C hr rfl hk (fun i => [].getD i 0, fun i => [0].getD i 0, fun i => [].getD i (fun _ => 0), fun i => [].getD i (fun _ => 0)) rfl (show (0 ≤ ((0 : Int32)).toInt ∧ ((0 : Int32)).toInt ≤ 1) ∧ ((0 : Int32).toInt = 0 ∨ 0 ≤ (p0).toInt ∧ (p0).toInt < (a_shelves).toInt) ∧ ((0 : Int32).toInt = 1 ∨ (p0).toInt < 0 ∨ (a_shelves).toInt ≤ (p0).toInt) from ⟨by omega, by omega, by omega⟩) [0] (by decide) rfl (by decide) (by decide) dX9_isShelf_17
  · skip
    have el_0 : (0 : Int32).toInt = 0 := rfl
    rw [i_lt] at c_1
    refine j_iload_n (pc := 4) C dX9_isShelf_4 rfl 1 rfl ?_
    refine j_aload_n (pc := 5) C dX9_isShelf_5 rfl 0 rfl ?_
    refine j_get (pc := 6) (ci := 9) (v := .int a_shelves) C inw_9 0 rfl rfl 1 (by decide) wd_1 rfl rfl dX9_isShelf_6 ?_
    refine j_icmp_ge (pc := 9) (tgt := 16) C dX9_isShelf_9 (by decide) (fun c_2 => ?_) (fun c_2 => ?_)
    · skip
      rw [i_le] at c_2
      refine j_iconst (pc := 16) (v := 0) C dX9_isShelf_16 (by decide) ?_
      have el_0 : (0 : Int32).toInt = 0 := rfl
      have el_0 : (0 : Int32).toInt = 0 := rfl
      have el_0 : (0 : Int32).toInt = 0 := rfl
      exact j_zret (pc := 17) C hr rfl hk (fun i => [].getD i 0, fun i => [0].getD i 0, fun i => [].getD i (fun _ => 0), fun i => [].getD i (fun _ => 0)) rfl (show (0 ≤ ((0 : Int32)).toInt ∧ ((0 : Int32)).toInt ≤ 1) ∧ ((0 : Int32).toInt = 0 ∨ 0 ≤ (p0).toInt ∧ (p0).toInt < (a_shelves).toInt) ∧ ((0 : Int32).toInt = 1 ∨ (p0).toInt < 0 ∨ (a_shelves).toInt ≤ (p0).toInt) from ⟨by omega, by omega, by omega⟩) [0] (by decide) rfl (by decide) (by decide) dX9_isShelf_17
    · skip
      rw [i_le] at c_2
      refine j_iconst (pc := 12) (v := 1) C dX9_isShelf_12 (by decide) ?_
      refine j_goto (pc := 13) (tgt := 17) C dX9_isShelf_13 (by decide) ?_
      have el_1 : (1 : Int32).toInt = 1 := rfl
      have el_1 : (1 : Int32).toInt = 1 := rfl
      have el_1 : (1 : Int32).toInt = 1 := rfl
      exact j_zret (pc := 17) C hr rfl hk (fun i => [].getD i 0, fun i => [1].getD i 0, fun i => [].getD i (fun _ => 0), fun i => [].getD i (fun _ => 0)) rfl (show (0 ≤ ((1 : Int32)).toInt ∧ ((1 : Int32)).toInt ≤ 1) ∧ ((1 : Int32).toInt = 0 ∨ 0 ≤ (p0).toInt ∧ (p0).toInt < (a_shelves).toInt) ∧ ((1 : Int32).toInt = 1 ∨ (p0).toInt < 0 ∨ (a_shelves).toInt ≤ (p0).toInt) from ⟨by omega, by omega, by omega⟩) [0] (by decide) rfl (by decide) (by decide) dX9_isShelf_17
set_option maxHeartbeats 4000000 in
set_option maxRecDepth 100000 in
theorem c_X7_isOut (l : Launch) (D : DG) (cyC cyI cyJ cyZ cyO : ClassId) (n0 : Nat) (n1 : Nat) (n2 : Nat) (n3 : Nat) (n4 : Nat) (p0 : Int32) (n_askings : Int32) (n_cost : Int32) (n_laid : Int32) (n_shelf : Nat → Int32) (h_n_askings : 0 ≤ (n_askings).toInt ∧ (n_askings).toInt ≤ 30) (h_n_laid : 0 ≤ (n_laid).toInt ∧ (n_laid).toInt ≤ 1) (h_p0 : 0 ≤ (p0).toInt ∧ (p0).toInt ≤ 11) (h_n_shelf : Iv 12 (-1) (3) n_shelf) : KK l D (TY cyC cyI cyJ cyZ cyO) yX7_isOut cX7_isOut 2 (some .boolean) ({ frames := 0, cells := 0, slots := 0, locals := 0 } : Room) 0 0 [.ref n0, .int p0] [(n0, .inr (7, [.ref n1, .ref n2, .ref n3, .ref n4, .int n_askings, .int n_cost, .int n_laid])), (n1, .inl (cyI, 12, .inl n_shelf))] (fun u => some (.int (u.2.1 0))) (fun u => (0 ≤ (u.2.1 0).toInt ∧ (u.2.1 0).toInt ≤ 1) ∧ ((u.2.1 0).toInt = 0 ∨ n_shelf (p0).toInt.toNat = -1) ∧ ((u.2.1 0).toInt = 1 ∨ 0 ≤ (n_shelf (p0).toInt.toNat).toInt)) (fun u => [(n0, .inr (7, [.ref n1, .ref n2, .ref n3, .ref n4, .int n_askings, .int n_cost, .int n_laid])), (n1, .inl (cyI, 12, .inl n_shelf))]) := by
  refine KK.of (lv0 := [(0, .ref n0), (1, .int p0)]) (by decide) rfl (Nat.le_of_ble_eq_true rfl) ?_
  intro p e s m args below meth c A C hr hk hin
  refine j_aload_n (pc := 0) C dX7_isOut_0 rfl 0 rfl ?_
  refine j_get (pc := 1) (ci := 7) (v := .ref n1) C inw_7 0 rfl rfl 0 (by decide) wd_2 rfl rfl dX7_isOut_1 ?_
  refine j_iload_n (pc := 4) C dX7_isOut_4 rfl 1 rfl ?_
  obtain ⟨v_1, ev_1⟩ : ∃ z, n_shelf (p0).toInt.toNat = z := ⟨_, rfl⟩
  have env_1 : (n_shelf (p0).toInt.toNat).toInt = v_1.toInt := by rw [ev_1]
  have hv_1 := h_n_shelf (p0).toInt.toNat (i_lt_n h_p0.1 (Int.lt_of_le_of_lt h_p0.2 (by decide))); rw [ev_1] at hv_1
  refine j_iald (pc := 5) (v := v_1) (k := (p0).toInt.toNat) C 1 1 rfl rfl (i_nn h_p0.1) rfl (i_lt_n h_p0.1 (Int.lt_of_le_of_lt h_p0.2 (by decide))) ev_1 dX7_isOut_5 ?_
  refine j_iconst (pc := 6) (v := (-1)) C dX7_isOut_6 (by decide) ?_
  refine j_icmp_ne (pc := 7) (tgt := 14) C dX7_isOut_7 (by decide) (fun c_2 => ?_) (fun c_2 => ?_)
  · skip
    have el_m1 : ((-1) : Int32).toInt = (-1) := rfl
    rw [i_eq] at c_2
    refine j_iconst (pc := 14) (v := 0) C dX7_isOut_14 (by decide) ?_
    have el_0 : (0 : Int32).toInt = 0 := rfl
    have el_0 : (0 : Int32).toInt = 0 := rfl
    have el_0 : (0 : Int32).toInt = 0 := rfl
    exact j_zret (pc := 15) C hr rfl hk (fun i => [].getD i 0, fun i => [0].getD i 0, fun i => [].getD i (fun _ => 0), fun i => [].getD i (fun _ => 0)) rfl (show (0 ≤ ((0 : Int32)).toInt ∧ ((0 : Int32)).toInt ≤ 1) ∧ ((0 : Int32).toInt = 0 ∨ n_shelf (p0).toInt.toNat = -1) ∧ ((0 : Int32).toInt = 1 ∨ 0 ≤ (n_shelf (p0).toInt.toNat).toInt) from ⟨by omega, by omega, by omega⟩) [0, 1] (by decide) rfl (by decide) (by decide) dX7_isOut_15
  · skip
    have el_m1 : ((-1) : Int32).toInt = (-1) := rfl
    rw [i_eq] at c_2
    refine j_iconst (pc := 10) (v := 1) C dX7_isOut_10 (by decide) ?_
    refine j_goto (pc := 11) (tgt := 15) C dX7_isOut_11 (by decide) ?_
    have el_1 : (1 : Int32).toInt = 1 := rfl
    have el_1 : (1 : Int32).toInt = 1 := rfl
    have el_1 : (1 : Int32).toInt = 1 := rfl
    exact j_zret (pc := 15) C hr rfl hk (fun i => [].getD i 0, fun i => [1].getD i 0, fun i => [].getD i (fun _ => 0), fun i => [].getD i (fun _ => 0)) rfl (show (0 ≤ ((1 : Int32)).toInt ∧ ((1 : Int32)).toInt ≤ 1) ∧ ((1 : Int32).toInt = 0 ∨ n_shelf (p0).toInt.toNat = -1) ∧ ((1 : Int32).toInt = 1 ∨ 0 ≤ (n_shelf (p0).toInt.toNat).toInt) from ⟨by omega, Or.inr (ev_1.trans ((i_eq _ _).mpr (by omega))), by omega⟩) [0, 1] (by decide) rfl (by decide) (by decide) dX7_isOut_15
set_option maxHeartbeats 4000000 in
set_option maxRecDepth 100000 in
theorem c_X7_stands (l : Launch) (D : DG) (cyC cyI cyJ cyZ cyO : ClassId) (n0 : Nat) (n1 : Nat) (n2 : Nat) (n3 : Nat) (n4 : Nat) (p0 : Int32) (p1 : Int32) (p2 : Int32) (n_askings : Int32) (n_cost : Int32) (n_laid : Int32) (n_shelf : Nat → Int32) (n_stack : Nat → Int32) (h_n_askings : 0 ≤ (n_askings).toInt ∧ (n_askings).toInt ≤ 30) (h_n_laid : 0 ≤ (n_laid).toInt ∧ (n_laid).toInt ≤ 1) (h_p0 : 0 ≤ (p0).toInt ∧ (p0).toInt ≤ 11) (h_n_shelf : Iv 12 (-1) (3) n_shelf) (h_n_stack : Iv 12 (0) (7) n_stack) : KK l D (TY cyC cyI cyJ cyZ cyO) yX7_stands cX7_stands 4 (some .boolean) ({ frames := 0, cells := 0, slots := 0, locals := 0 } : Room) 0 0 [.ref n0, .int p0, .int p1, .int p2] [(n0, .inr (7, [.ref n1, .ref n2, .ref n3, .ref n4, .int n_askings, .int n_cost, .int n_laid])), (n1, .inl (cyI, 12, .inl n_shelf)), (n2, .inl (cyI, 12, .inl n_stack))] (fun u => some (.int (u.2.1 0))) (fun u => (0 ≤ (u.2.1 0).toInt ∧ (u.2.1 0).toInt ≤ 1) ∧ ((u.2.1 0).toInt = 1 ∨ ¬ n_shelf (p0).toInt.toNat = p1 ∨ ¬ n_stack (p0).toInt.toNat = p2) ∧ ((u.2.1 0).toInt = 0 ∨ n_shelf (p0).toInt.toNat = p1 ∧ n_stack (p0).toInt.toNat = p2)) (fun u => [(n0, .inr (7, [.ref n1, .ref n2, .ref n3, .ref n4, .int n_askings, .int n_cost, .int n_laid])), (n1, .inl (cyI, 12, .inl n_shelf)), (n2, .inl (cyI, 12, .inl n_stack))]) := by
  refine KK.of (lv0 := [(0, .ref n0), (1, .int p0), (2, .int p1), (3, .int p2)]) (by decide) rfl (Nat.le_of_ble_eq_true rfl) ?_
  intro p e s m args below meth c A C hr hk hin
  refine j_aload_n (pc := 0) C dX7_stands_0 rfl 0 rfl ?_
  refine j_get (pc := 1) (ci := 7) (v := .ref n1) C inw_7 0 rfl rfl 0 (by decide) wd_2 rfl rfl dX7_stands_1 ?_
  refine j_iload_n (pc := 4) C dX7_stands_4 rfl 1 rfl ?_
  obtain ⟨v_1, ev_1⟩ : ∃ z, n_shelf (p0).toInt.toNat = z := ⟨_, rfl⟩
  have env_1 : (n_shelf (p0).toInt.toNat).toInt = v_1.toInt := by rw [ev_1]
  have hv_1 := h_n_shelf (p0).toInt.toNat (i_lt_n h_p0.1 (Int.lt_of_le_of_lt h_p0.2 (by decide))); rw [ev_1] at hv_1
  refine j_iald (pc := 5) (v := v_1) (k := (p0).toInt.toNat) C 1 1 rfl rfl (i_nn h_p0.1) rfl (i_lt_n h_p0.1 (Int.lt_of_le_of_lt h_p0.2 (by decide))) ev_1 dX7_stands_5 ?_
  refine j_iload_n (pc := 6) C dX7_stands_6 rfl 2 rfl ?_
  refine j_icmp_ne (pc := 7) (tgt := 24) C dX7_stands_7 (by decide) (fun c_2 => ?_) (fun c_2 => ?_)
  · skip
    rw [i_eq] at c_2
    refine j_iconst (pc := 24) (v := 0) C dX7_stands_24 (by decide) ?_
    have el_0 : (0 : Int32).toInt = 0 := rfl
    have el_0 : (0 : Int32).toInt = 0 := rfl
    have el_0 : (0 : Int32).toInt = 0 := rfl
    exact j_zret (pc := 25) C hr rfl hk (fun i => [].getD i 0, fun i => [0].getD i 0, fun i => [].getD i (fun _ => 0), fun i => [].getD i (fun _ => 0)) rfl (show (0 ≤ ((0 : Int32)).toInt ∧ ((0 : Int32)).toInt ≤ 1) ∧ ((0 : Int32).toInt = 1 ∨ ¬ n_shelf (p0).toInt.toNat = p1 ∨ ¬ n_stack (p0).toInt.toNat = p2) ∧ ((0 : Int32).toInt = 0 ∨ n_shelf (p0).toInt.toNat = p1 ∧ n_stack (p0).toInt.toNat = p2) from ⟨by omega, Or.inr (Or.inl (fun h => c_2 (by rw [← ev_1, h]))), by omega⟩) [0, 1, 2] (by decide) rfl (by decide) (by decide) dX7_stands_25
  · skip
    rw [i_eq] at c_2
    refine j_aload_n (pc := 10) C dX7_stands_10 rfl 0 rfl ?_
    refine j_get (pc := 11) (ci := 7) (v := .ref n2) C inw_7 0 rfl rfl 1 (by decide) wd_3 rfl rfl dX7_stands_11 ?_
    refine j_iload_n (pc := 14) C dX7_stands_14 rfl 1 rfl ?_
    obtain ⟨v_3, ev_3⟩ : ∃ z, n_stack (p0).toInt.toNat = z := ⟨_, rfl⟩
    have env_3 : (n_stack (p0).toInt.toNat).toInt = v_3.toInt := by rw [ev_3]
    have hv_3 := h_n_stack (p0).toInt.toNat (i_lt_n h_p0.1 (Int.lt_of_le_of_lt h_p0.2 (by decide))); rw [ev_3] at hv_3
    refine j_iald (pc := 15) (v := v_3) (k := (p0).toInt.toNat) C 2 1 rfl rfl (i_nn h_p0.1) rfl (i_lt_n h_p0.1 (Int.lt_of_le_of_lt h_p0.2 (by decide))) ev_3 dX7_stands_15 ?_
    refine j_iload_n (pc := 16) C dX7_stands_16 rfl 3 rfl ?_
    refine j_icmp_ne (pc := 17) (tgt := 24) C dX7_stands_17 (by decide) (fun c_4 => ?_) (fun c_4 => ?_)
    · skip
      rw [i_eq] at c_4
      refine j_iconst (pc := 24) (v := 0) C dX7_stands_24 (by decide) ?_
      have el_0 : (0 : Int32).toInt = 0 := rfl
      have el_0 : (0 : Int32).toInt = 0 := rfl
      have el_0 : (0 : Int32).toInt = 0 := rfl
      exact j_zret (pc := 25) C hr rfl hk (fun i => [].getD i 0, fun i => [0].getD i 0, fun i => [].getD i (fun _ => 0), fun i => [].getD i (fun _ => 0)) rfl (show (0 ≤ ((0 : Int32)).toInt ∧ ((0 : Int32)).toInt ≤ 1) ∧ ((0 : Int32).toInt = 1 ∨ ¬ n_shelf (p0).toInt.toNat = p1 ∨ ¬ n_stack (p0).toInt.toNat = p2) ∧ ((0 : Int32).toInt = 0 ∨ n_shelf (p0).toInt.toNat = p1 ∧ n_stack (p0).toInt.toNat = p2) from ⟨by omega, Or.inr (Or.inr (fun h => c_4 (by rw [← ev_3, h]))), by omega⟩) [0, 1, 2] (by decide) rfl (by decide) (by decide) dX7_stands_25
    · skip
      rw [i_eq] at c_4
      refine j_iconst (pc := 20) (v := 1) C dX7_stands_20 (by decide) ?_
      refine j_goto (pc := 21) (tgt := 25) C dX7_stands_21 (by decide) ?_
      have el_1 : (1 : Int32).toInt = 1 := rfl
      have el_1 : (1 : Int32).toInt = 1 := rfl
      have el_1 : (1 : Int32).toInt = 1 := rfl
      exact j_zret (pc := 25) C hr rfl hk (fun i => [].getD i 0, fun i => [1].getD i 0, fun i => [].getD i (fun _ => 0), fun i => [].getD i (fun _ => 0)) rfl (show (0 ≤ ((1 : Int32)).toInt ∧ ((1 : Int32)).toInt ≤ 1) ∧ ((1 : Int32).toInt = 1 ∨ ¬ n_shelf (p0).toInt.toNat = p1 ∨ ¬ n_stack (p0).toInt.toNat = p2) ∧ ((1 : Int32).toInt = 0 ∨ n_shelf (p0).toInt.toNat = p1 ∧ n_stack (p0).toInt.toNat = p2) from ⟨by omega, by omega, Or.inr ⟨ev_1.trans ((i_eq _ _).mpr (by omega)), ev_3.trans ((i_eq _ _).mpr (by omega))⟩⟩) [0, 1, 2] (by decide) rfl (by decide) (by decide) dX7_stands_25
theorem wd_4 : Cond.methodLink RX7 47 Lib.Math.max.name ∈ WALL := wl_in (by decide +kernel) (by decide +kernel)
theorem wd_5 : Cond.static Lib.Math.max.name ∈ WALL := wl_in (by decide +kernel) (by decide +kernel)
theorem wd_6 : Cond.initialized "java/lang/Math" ∈ WALL := wl_in (by decide +kernel) (by decide +kernel)
theorem wd_7 : Cond.code Lib.Math.max.name Lib.Math.max.code 2 (some .int) ∈ WALL := wl_in (by decide +kernel) (by decide +kernel)
theorem wd_8 : Cond.code yX7_stands cX7_stands 4 (some .boolean) ∈ WALL := wl_in (by decide +kernel) (by decide +kernel)
theorem wd_9 : Cond.initialized RX7 ∈ WALL := wl_in (by decide +kernel) (by decide +kernel)
theorem wd_10 : Cond.methodLink RX7 53 yX7_stands ∈ WALL := wl_in (by decide +kernel) (by decide +kernel)
theorem wd_11 : Cond.instanceMethod yX7_stands ∈ WALL := wl_in (by decide +kernel) (by decide +kernel)
theorem wd_12 : Cond.selects RX7 yX7_stands yX7_stands ∈ WALL := wl_in (by decide +kernel) (by decide +kernel)
theorem wd_13 : Cond.code yX7_isOut cX7_isOut 2 (some .boolean) ∈ WALL := wl_in (by decide +kernel) (by decide +kernel)
theorem wd_14 : Cond.methodLink RX7 43 yX7_isOut ∈ WALL := wl_in (by decide +kernel) (by decide +kernel)
theorem wd_15 : Cond.instanceMethod yX7_isOut ∈ WALL := wl_in (by decide +kernel) (by decide +kernel)
theorem wd_16 : Cond.selects RX7 yX7_isOut yX7_isOut ∈ WALL := wl_in (by decide +kernel) (by decide +kernel)
theorem wd_17 : Cond.fieldLink RX9 9 "BowlShelf$Told" "wide" "[I" ∈ WALL := wl_in (by decide +kernel) (by decide +kernel)
theorem wd_18 : Cond.fieldLink RX9 15 "BowlShelf$Told" "deep" "[I" ∈ WALL := wl_in (by decide +kernel) (by decide +kernel)
theorem wd_19 : Cond.fieldLink RX9 52 "BowlShelf$Told" "lids" "I" ∈ WALL := wl_in (by decide +kernel) (by decide +kernel)
theorem wd_20 : Cond.fieldLink RX9 18 "BowlShelf$Told" "weight" "[I" ∈ WALL := wl_in (by decide +kernel) (by decide +kernel)
theorem dX7_stacks_0 : decode cX7_stacks 0 = .ok (.iconst 0, 1) := by decide +kernel
theorem dX7_stacks_1 : decode cX7_stacks 1 = .ok (.istore_n 2, 1) := by decide +kernel
theorem dX7_stacks_2 : decode cX7_stacks 2 = .ok (.iconst 0, 1) := by decide +kernel
theorem dX7_stacks_3 : decode cX7_stacks 3 = .ok (.istore_n 3, 1) := by decide +kernel
theorem dX7_stacks_4 : decode cX7_stacks 4 = .ok (.iload_n 3, 1) := by decide +kernel
theorem dX7_stacks_5 : decode cX7_stacks 5 = .ok (.bipush 12, 2) := by decide +kernel
theorem dX7_stacks_7 : decode cX7_stacks 7 = .ok (.if_icmp .ge 32, 3) := by decide +kernel
theorem dX7_stacks_10 : decode cX7_stacks 10 = .ok (.aload_n 0, 1) := by decide +kernel
theorem dX7_stacks_11 : decode cX7_stacks 11 = .ok (.getfield 9, 3) := by decide +kernel
theorem dX7_stacks_14 : decode cX7_stacks 14 = .ok (.iload_n 3, 1) := by decide +kernel
theorem dX7_stacks_15 : decode cX7_stacks 15 = .ok (.iaload, 1) := by decide +kernel
theorem dX7_stacks_16 : decode cX7_stacks 16 = .ok (.iload_n 1, 1) := by decide +kernel
theorem dX7_stacks_17 : decode cX7_stacks 17 = .ok (.if_icmp .ne 16, 3) := by decide +kernel
theorem dX7_stacks_20 : decode cX7_stacks 20 = .ok (.iload_n 2, 1) := by decide +kernel
theorem dX7_stacks_21 : decode cX7_stacks 21 = .ok (.aload_n 0, 1) := by decide +kernel
theorem dX7_stacks_22 : decode cX7_stacks 22 = .ok (.getfield 15, 3) := by decide +kernel
theorem dX7_stacks_25 : decode cX7_stacks 25 = .ok (.iload_n 3, 1) := by decide +kernel
theorem dX7_stacks_26 : decode cX7_stacks 26 = .ok (.iaload, 1) := by decide +kernel
theorem dX7_stacks_27 : decode cX7_stacks 27 = .ok (.iconst 1, 1) := by decide +kernel
theorem dX7_stacks_28 : decode cX7_stacks 28 = .ok (.iadd, 1) := by decide +kernel
theorem dX7_stacks_29 : decode cX7_stacks 29 = .ok (.invokestatic 47, 3) := by decide +kernel
theorem dX7_stacks_32 : decode cX7_stacks 32 = .ok (.istore_n 2, 1) := by decide +kernel
theorem dX7_stacks_33 : decode cX7_stacks 33 = .ok (.iinc 3 1, 3) := by decide +kernel
theorem dX7_stacks_36 : decode cX7_stacks 36 = .ok (.goto (-32), 3) := by decide +kernel
theorem dX7_stacks_39 : decode cX7_stacks 39 = .ok (.iload_n 2, 1) := by decide +kernel
theorem dX7_stacks_40 : decode cX7_stacks 40 = .ok (.ireturn, 1) := by decide +kernel
theorem dX7_size_0 : decode cX7_size 0 = .ok (.iconst 0, 1) := by decide +kernel
theorem dX7_size_1 : decode cX7_size 1 = .ok (.istore_n 3, 1) := by decide +kernel
theorem dX7_size_2 : decode cX7_size 2 = .ok (.iconst 0, 1) := by decide +kernel
theorem dX7_size_3 : decode cX7_size 3 = .ok (.istore 4, 2) := by decide +kernel
theorem dX7_size_5 : decode cX7_size 5 = .ok (.iload 4, 2) := by decide +kernel
theorem dX7_size_7 : decode cX7_size 7 = .ok (.bipush 12, 2) := by decide +kernel
theorem dX7_size_9 : decode cX7_size 9 = .ok (.if_icmp .ge 28, 3) := by decide +kernel
theorem dX7_size_12 : decode cX7_size 12 = .ok (.iload_n 3, 1) := by decide +kernel
theorem dX7_size_13 : decode cX7_size 13 = .ok (.aload_n 0, 1) := by decide +kernel
theorem dX7_size_14 : decode cX7_size 14 = .ok (.iload 4, 2) := by decide +kernel
theorem dX7_size_16 : decode cX7_size 16 = .ok (.iload_n 1, 1) := by decide +kernel
theorem dX7_size_17 : decode cX7_size 17 = .ok (.iload_n 2, 1) := by decide +kernel
theorem dX7_size_18 : decode cX7_size 18 = .ok (.invokevirtual 53, 3) := by decide +kernel
theorem dX7_size_21 : decode cX7_size 21 = .ok (.ifCond .eq 7, 3) := by decide +kernel
theorem dX7_size_24 : decode cX7_size 24 = .ok (.iconst 1, 1) := by decide +kernel
theorem dX7_size_25 : decode cX7_size 25 = .ok (.goto 4, 3) := by decide +kernel
theorem dX7_size_28 : decode cX7_size 28 = .ok (.iconst 0, 1) := by decide +kernel
theorem dX7_size_29 : decode cX7_size 29 = .ok (.iadd, 1) := by decide +kernel
theorem dX7_size_30 : decode cX7_size 30 = .ok (.istore_n 3, 1) := by decide +kernel
theorem dX7_size_31 : decode cX7_size 31 = .ok (.iinc 4 1, 3) := by decide +kernel
theorem dX7_size_34 : decode cX7_size 34 = .ok (.goto (-29), 3) := by decide +kernel
theorem dX7_size_37 : decode cX7_size 37 = .ok (.iload_n 3, 1) := by decide +kernel
theorem dX7_size_38 : decode cX7_size 38 = .ok (.ireturn, 1) := by decide +kernel
theorem dX7_outOf_0 : decode cX7_outOf 0 = .ok (.iconst 0, 1) := by decide +kernel
theorem dX7_outOf_1 : decode cX7_outOf 1 = .ok (.istore_n 2, 1) := by decide +kernel
theorem dX7_outOf_2 : decode cX7_outOf 2 = .ok (.iconst 0, 1) := by decide +kernel
theorem dX7_outOf_3 : decode cX7_outOf 3 = .ok (.istore_n 3, 1) := by decide +kernel
theorem dX7_outOf_4 : decode cX7_outOf 4 = .ok (.iload_n 3, 1) := by decide +kernel
theorem dX7_outOf_5 : decode cX7_outOf 5 = .ok (.iload_n 1, 1) := by decide +kernel
theorem dX7_outOf_6 : decode cX7_outOf 6 = .ok (.if_icmp .ge 25, 3) := by decide +kernel
theorem dX7_outOf_9 : decode cX7_outOf 9 = .ok (.iload_n 2, 1) := by decide +kernel
theorem dX7_outOf_10 : decode cX7_outOf 10 = .ok (.aload_n 0, 1) := by decide +kernel
theorem dX7_outOf_11 : decode cX7_outOf 11 = .ok (.iload_n 3, 1) := by decide +kernel
theorem dX7_outOf_12 : decode cX7_outOf 12 = .ok (.invokevirtual 43, 3) := by decide +kernel
theorem dX7_outOf_15 : decode cX7_outOf 15 = .ok (.ifCond .eq 7, 3) := by decide +kernel
theorem dX7_outOf_18 : decode cX7_outOf 18 = .ok (.iconst 1, 1) := by decide +kernel
theorem dX7_outOf_19 : decode cX7_outOf 19 = .ok (.goto 4, 3) := by decide +kernel
theorem dX7_outOf_22 : decode cX7_outOf 22 = .ok (.iconst 0, 1) := by decide +kernel
theorem dX7_outOf_23 : decode cX7_outOf 23 = .ok (.iadd, 1) := by decide +kernel
theorem dX7_outOf_24 : decode cX7_outOf 24 = .ok (.istore_n 2, 1) := by decide +kernel
theorem dX7_outOf_25 : decode cX7_outOf 25 = .ok (.iinc 3 1, 3) := by decide +kernel
theorem dX7_outOf_28 : decode cX7_outOf 28 = .ok (.goto (-24), 3) := by decide +kernel
theorem dX7_outOf_31 : decode cX7_outOf 31 = .ok (.iload_n 2, 1) := by decide +kernel
theorem dX7_outOf_32 : decode cX7_outOf 32 = .ok (.ireturn, 1) := by decide +kernel
theorem dX9_rise_0 : decode cX9_rise 0 = .ok (.aload_n 0, 1) := by decide +kernel
theorem dX9_rise_1 : decode cX9_rise 1 = .ok (.getfield 9, 3) := by decide +kernel
theorem dX9_rise_4 : decode cX9_rise 4 = .ok (.iload_n 1, 1) := by decide +kernel
theorem dX9_rise_5 : decode cX9_rise 5 = .ok (.iaload, 1) := by decide +kernel
theorem dX9_rise_6 : decode cX9_rise 6 = .ok (.aload_n 0, 1) := by decide +kernel
theorem dX9_rise_7 : decode cX9_rise 7 = .ok (.getfield 9, 3) := by decide +kernel
theorem dX9_rise_10 : decode cX9_rise 10 = .ok (.iload_n 2, 1) := by decide +kernel
theorem dX9_rise_11 : decode cX9_rise 11 = .ok (.iaload, 1) := by decide +kernel
theorem dX9_rise_12 : decode cX9_rise 12 = .ok (.if_icmp .ge 18, 3) := by decide +kernel
theorem dX9_rise_15 : decode cX9_rise 15 = .ok (.aload_n 0, 1) := by decide +kernel
theorem dX9_rise_16 : decode cX9_rise 16 = .ok (.getfield 52, 3) := by decide +kernel
theorem dX9_rise_19 : decode cX9_rise 19 = .ok (.iload_n 2, 1) := by decide +kernel
theorem dX9_rise_20 : decode cX9_rise 20 = .ok (.iushr, 1) := by decide +kernel
theorem dX9_rise_21 : decode cX9_rise 21 = .ok (.iconst 1, 1) := by decide +kernel
theorem dX9_rise_22 : decode cX9_rise 22 = .ok (.iand, 1) := by decide +kernel
theorem dX9_rise_23 : decode cX9_rise 23 = .ok (.ifCond .ne 7, 3) := by decide +kernel
theorem dX9_rise_26 : decode cX9_rise 26 = .ok (.iconst 1, 1) := by decide +kernel
theorem dX9_rise_27 : decode cX9_rise 27 = .ok (.goto 4, 3) := by decide +kernel
theorem dX9_rise_30 : decode cX9_rise 30 = .ok (.iconst 0, 1) := by decide +kernel
theorem dX9_rise_31 : decode cX9_rise 31 = .ok (.istore_n 3, 1) := by decide +kernel
theorem dX9_rise_32 : decode cX9_rise 32 = .ok (.iload_n 3, 1) := by decide +kernel
theorem dX9_rise_33 : decode cX9_rise 33 = .ok (.ifCond .eq 7, 3) := by decide +kernel
theorem dX9_rise_36 : decode cX9_rise 36 = .ok (.iconst 1, 1) := by decide +kernel
theorem dX9_rise_37 : decode cX9_rise 37 = .ok (.goto 9, 3) := by decide +kernel
theorem dX9_rise_40 : decode cX9_rise 40 = .ok (.aload_n 0, 1) := by decide +kernel
theorem dX9_rise_41 : decode cX9_rise 41 = .ok (.getfield 15, 3) := by decide +kernel
theorem dX9_rise_44 : decode cX9_rise 44 = .ok (.iload_n 2, 1) := by decide +kernel
theorem dX9_rise_45 : decode cX9_rise 45 = .ok (.iaload, 1) := by decide +kernel
theorem dX9_rise_46 : decode cX9_rise 46 = .ok (.ireturn, 1) := by decide +kernel
theorem dX9_weightOf_0 : decode cX9_weightOf 0 = .ok (.iconst 0, 1) := by decide +kernel
theorem dX9_weightOf_1 : decode cX9_weightOf 1 = .ok (.istore_n 2, 1) := by decide +kernel
theorem dX9_weightOf_2 : decode cX9_weightOf 2 = .ok (.iconst 0, 1) := by decide +kernel
theorem dX9_weightOf_3 : decode cX9_weightOf 3 = .ok (.istore_n 3, 1) := by decide +kernel
theorem dX9_weightOf_4 : decode cX9_weightOf 4 = .ok (.iload_n 3, 1) := by decide +kernel
theorem dX9_weightOf_5 : decode cX9_weightOf 5 = .ok (.aload_n 0, 1) := by decide +kernel
theorem dX9_weightOf_6 : decode cX9_weightOf 6 = .ok (.getfield 42, 3) := by decide +kernel
theorem dX9_weightOf_9 : decode cX9_weightOf 9 = .ok (.if_icmp .ge 24, 3) := by decide +kernel
theorem dX9_weightOf_12 : decode cX9_weightOf 12 = .ok (.iload_n 2, 1) := by decide +kernel
theorem dX9_weightOf_13 : decode cX9_weightOf 13 = .ok (.iload_n 1, 1) := by decide +kernel
theorem dX9_weightOf_14 : decode cX9_weightOf 14 = .ok (.iload_n 3, 1) := by decide +kernel
theorem dX9_weightOf_15 : decode cX9_weightOf 15 = .ok (.iushr, 1) := by decide +kernel
theorem dX9_weightOf_16 : decode cX9_weightOf 16 = .ok (.iconst 1, 1) := by decide +kernel
theorem dX9_weightOf_17 : decode cX9_weightOf 17 = .ok (.iand, 1) := by decide +kernel
theorem dX9_weightOf_18 : decode cX9_weightOf 18 = .ok (.aload_n 0, 1) := by decide +kernel
theorem dX9_weightOf_19 : decode cX9_weightOf 19 = .ok (.getfield 18, 3) := by decide +kernel
theorem dX9_weightOf_22 : decode cX9_weightOf 22 = .ok (.iload_n 3, 1) := by decide +kernel
theorem dX9_weightOf_23 : decode cX9_weightOf 23 = .ok (.iaload, 1) := by decide +kernel
theorem dX9_weightOf_24 : decode cX9_weightOf 24 = .ok (.imul, 1) := by decide +kernel
theorem dX9_weightOf_25 : decode cX9_weightOf 25 = .ok (.iadd, 1) := by decide +kernel
theorem dX9_weightOf_26 : decode cX9_weightOf 26 = .ok (.istore_n 2, 1) := by decide +kernel
theorem dX9_weightOf_27 : decode cX9_weightOf 27 = .ok (.iinc 3 1, 3) := by decide +kernel
theorem dX9_weightOf_30 : decode cX9_weightOf 30 = .ok (.goto (-26), 3) := by decide +kernel
theorem dX9_weightOf_33 : decode cX9_weightOf 33 = .ok (.iload_n 2, 1) := by decide +kernel
theorem dX9_weightOf_34 : decode cX9_weightOf 34 = .ok (.ireturn, 1) := by decide +kernel
/-- how many stacks a shelf has, by the rows of shelves and stacks -/
def stF (sh st : Nat → Int32) (s : Int32) : Nat → Int32
  | 0 => 0
  | k + 1 => if sh k = s then (if stF sh st s k < st k + 1 then st k + 1 else stF sh st s k) else stF sh st s k
theorem stF_s (sh st : Nat → Int32) (s : Int32) (k : Nat) : stF sh st s (k + 1) = if sh k = s then (if stF sh st s k < st k + 1 then st k + 1 else stF sh st s k) else stF sh st s k := rfl
set_option maxHeartbeats 4000000 in
set_option maxRecDepth 100000 in
theorem c_X7_stacks (l : Launch) (D : DG) (cyC cyI cyJ cyZ cyO : ClassId) (n0 : Nat) (n1 : Nat) (n2 : Nat) (n3 : Nat) (n4 : Nat) (p0 : Int32) (n_askings : Int32) (n_cost : Int32) (n_laid : Int32) (n_shelf : Nat → Int32) (n_stack : Nat → Int32) (h_n_askings : 0 ≤ (n_askings).toInt ∧ (n_askings).toInt ≤ 30) (h_n_laid : 0 ≤ (n_laid).toInt ∧ (n_laid).toInt ≤ 1) (h_n_shelf : Iv 12 (-1) (3) n_shelf) (h_n_stack : Iv 12 (0) (7) n_stack) : KK l D (TY cyC cyI cyJ cyZ cyO) yX7_stacks cX7_stacks 4 (some .int) ({ frames := 1, cells := 0, slots := 0, locals := 13 } : Room) 0 0 [.ref n0, .int p0] [(n0, .inr (7, [.ref n1, .ref n2, .ref n3, .ref n4, .int n_askings, .int n_cost, .int n_laid])), (n1, .inl (cyI, 12, .inl n_shelf)), (n2, .inl (cyI, 12, .inl n_stack))] (fun u => some (.int (u.2.1 0))) (fun u => (0 ≤ (u.2.1 0).toInt ∧ (u.2.1 0).toInt ≤ 8) ∧ ((u.2.1 0) = stF n_shelf n_stack p0 12)) (fun u => [(n0, .inr (7, [.ref n1, .ref n2, .ref n3, .ref n4, .int n_askings, .int n_cost, .int n_laid])), (n1, .inl (cyI, 12, .inl n_shelf)), (n2, .inl (cyI, 12, .inl n_stack))]) := by
  refine KK.of (lv0 := [(0, .ref n0), (1, .int p0)]) (by decide) rfl (Nat.le_of_ble_eq_true rfl) ?_
  intro p e s m args below meth c A C hr hk hin
  refine j_iconst (pc := 0) (v := 0) C dX7_stacks_0 (by decide) ?_
  refine j_istore_n (pc := 1) (lv' := [(2, .int 0), (0, .ref n0), (1, .int p0)]) C dX7_stacks_1 rfl (by decide) rfl ?_
  refine j_iconst (pc := 2) (v := 0) C dX7_stacks_2 (by decide) ?_
  refine j_istore_n (pc := 3) (lv' := [(3, .int 0), (2, .int 0), (0, .ref n0), (1, .int p0)]) C dX7_stacks_3 rfl (by decide) rfl ?_
  have loop_1 : ∀ (k_1 : Nat) (x1_3 : Int32) (x1_2 : Int32), (0 ≤ (x1_3).toInt ∧ (x1_3).toInt ≤ 12) → (0 ≤ (x1_2).toInt ∧ (x1_2).toInt ≤ 8) → (x1_2 = stF n_shelf n_stack p0 (x1_3.toInt).toNat) → (12 - x1_3.toInt).toNat < k_1 → J p l e ({ frames := 1, cells := 0, slots := 0, locals := 13 } : Room) s m args below meth c D A 4 0 0 (QX below D (TY cyC cyI cyJ cyZ cyO) A (fun u => some (.int (u.2.1 0))) (fun u => (0 ≤ (u.2.1 0).toInt ∧ (u.2.1 0).toInt ≤ 8) ∧ ((u.2.1 0) = stF n_shelf n_stack p0 12)) (fun u => [(n0, .inr (7, [.ref n1, .ref n2, .ref n3, .ref n4, .int n_askings, .int n_cost, .int n_laid])), (n1, .inl (cyI, 12, .inl n_shelf)), (n2, .inl (cyI, 12, .inl n_stack))]) args s 0 0) [(n0, .inr (7, [.ref n1, .ref n2, .ref n3, .ref n4, .int n_askings, .int n_cost, .int n_laid])), (n1, .inl (cyI, 12, .inl n_shelf)), (n2, .inl (cyI, 12, .inl n_stack))] 4 [(3, .int x1_3), (2, .int x1_2), (0, .ref n0), (1, .int p0)] [] := by
    intro k_1
    induction k_1 with
    | zero =>
      intro x1_3 x1_2 hi_1_0 hi_1_1 hq_1_0 hm_1
      exact absurd hm_1 (Nat.not_lt_zero _)
    | succ k_1 ih_1 =>
      intro x1_3 x1_2 hi_1_0 hi_1_1 hq_1_0 hm_1
      refine j_iload_n (pc := 4) C dX7_stacks_4 rfl 0 rfl ?_
      refine j_bipush (pc := 5) (v := 12) C dX7_stacks_5 (by decide) ?_
      refine j_icmp_ge (pc := 7) (tgt := 39) C dX7_stacks_7 (by decide) (fun c_2 => ?_) (fun c_2 => ?_)
      · skip
        have el_12 : (12 : Int32).toInt = 12 := rfl
        rw [i_le] at c_2
        have k0c_2 : x1_3.toInt = 12 := by omega
        refine j_iload_n (pc := 39) C dX7_stacks_39 rfl 1 rfl ?_
        exact j_iret (pc := 40) C hr hk (fun i => [].getD i 0, fun i => [x1_2].getD i 0, fun i => [].getD i (fun _ => 0), fun i => [].getD i (fun _ => 0)) rfl (show (0 ≤ (x1_2).toInt ∧ (x1_2).toInt ≤ 8) ∧ (x1_2 = stF n_shelf n_stack p0 12) from ⟨hi_1_1, by have e : (x1_3.toInt).toNat = 12 := (by omega); rw [← e]; exact hq_1_0⟩) [0, 1, 2] (by decide) rfl (by decide) (by decide) dX7_stacks_40
      · skip
        have el_12 : (12 : Int32).toInt = 12 := rfl
        rw [i_le] at c_2
        refine j_aload_n (pc := 10) C dX7_stacks_10 rfl 2 rfl ?_
        refine j_get (pc := 11) (ci := 7) (v := .ref n1) C inw_7 0 rfl rfl 0 (by decide) wd_2 rfl rfl dX7_stacks_11 ?_
        refine j_iload_n (pc := 14) C dX7_stacks_14 rfl 0 rfl ?_
        obtain ⟨v_3, ev_3⟩ : ∃ z, n_shelf (x1_3).toInt.toNat = z := ⟨_, rfl⟩
        have env_3 : (n_shelf (x1_3).toInt.toNat).toInt = v_3.toInt := by rw [ev_3]
        have hv_3 := h_n_shelf (x1_3).toInt.toNat (i_lt_n hi_1_0.1 (by omega)); rw [ev_3] at hv_3
        refine j_iald (pc := 15) (v := v_3) (k := (x1_3).toInt.toNat) C 1 1 rfl rfl (i_nn hi_1_0.1) rfl (i_lt_n hi_1_0.1 (by omega)) ev_3 dX7_stacks_15 ?_
        refine j_iload_n (pc := 16) C dX7_stacks_16 rfl 3 rfl ?_
        refine j_icmp_ne (pc := 17) (tgt := 33) C dX7_stacks_17 (by decide) (fun c_4 => ?_) (fun c_4 => ?_)
        · skip
          rw [i_eq] at c_4
          obtain ⟨v_5, ev_5⟩ : ∃ z : Int32, x1_3 + 1 = z := ⟨_, rfl⟩
          have el_1 : (1 : Int32).toInt = 1 := rfl
          have hv_5 : v_5.toInt = x1_3.toInt + (1 : Int32).toInt := by rw [← ev_5]; exact fb_addI (by omega) (by omega)
          refine j_iinc (pc := 33) (v := v_5) (lv' := [(3, .int v_5), (2, .int x1_2), (0, .ref n0), (1, .int p0)]) C dX7_stacks_33 0 rfl ev_5 (by decide) rfl ?_
          refine j_goto (pc := 36) (tgt := 4) C dX7_stacks_36 (by decide) ?_
          exact j_lv [0, 1, 2, 3] rfl (ih_1 v_5 x1_2 (by omega) hi_1_1 (by have e : (v_5.toInt).toNat = (x1_3.toInt).toNat + 1 := (by omega); rw [e, stF_s]; rw [if_neg (fun h => c_4 (by rw [← ev_3, h]))]; exact hq_1_0) (by omega))
        · skip
          rw [i_eq] at c_4
          refine j_iload_n (pc := 20) C dX7_stacks_20 rfl 1 rfl ?_
          refine j_aload_n (pc := 21) C dX7_stacks_21 rfl 2 rfl ?_
          refine j_get (pc := 22) (ci := 7) (v := .ref n2) C inw_7 0 rfl rfl 1 (by decide) wd_3 rfl rfl dX7_stacks_22 ?_
          refine j_iload_n (pc := 25) C dX7_stacks_25 rfl 0 rfl ?_
          obtain ⟨v_6, ev_6⟩ : ∃ z, n_stack (x1_3).toInt.toNat = z := ⟨_, rfl⟩
          have env_6 : (n_stack (x1_3).toInt.toNat).toInt = v_6.toInt := by rw [ev_6]
          have hv_6 := h_n_stack (x1_3).toInt.toNat (i_lt_n hi_1_0.1 (by omega)); rw [ev_6] at hv_6
          refine j_iald (pc := 26) (v := v_6) (k := (x1_3).toInt.toNat) C 2 1 rfl rfl (i_nn hi_1_0.1) rfl (i_lt_n hi_1_0.1 (by omega)) ev_6 dX7_stacks_26 ?_
          refine j_iconst (pc := 27) (v := 1) C dX7_stacks_27 (by decide) ?_
          obtain ⟨v_7, ev_7⟩ : ∃ z : Int32, v_6 + 1 = z := ⟨_, rfl⟩
          have el_1 : (1 : Int32).toInt = 1 := rfl
          have hv_7 : v_7.toInt = v_6.toInt + (1 : Int32).toInt := by rw [← ev_7]; exact fb_addI (by omega) (by omega)
          refine j_iadd (pc := 28) (v := v_7) C dX7_stacks_28 ev_7 ?_
          obtain ⟨v_8, ev_8⟩ : ∃ z : Int32, (if (x1_2 : Int32) < v_7 then v_7 else x1_2) = z := ⟨_, rfl⟩
          have hv_8 : v_8.toInt = max x1_2.toInt v_7.toInt := by rw [← ev_8]; exact mmax_I _ _
          refine j_mmax (pc := 29) (v := v_8) C wd_4 wd_5 wd_6 wd_7 (by decide) (Nat.le_of_ble_eq_true rfl) (by decide) (by decide) ev_8 dX7_stacks_29 ?_
          refine j_istore_n (pc := 32) (lv' := [(2, .int v_8), (3, .int x1_3), (0, .ref n0), (1, .int p0)]) C dX7_stacks_32 rfl (by decide) rfl ?_
          obtain ⟨v_9, ev_9⟩ : ∃ z : Int32, x1_3 + 1 = z := ⟨_, rfl⟩
          have el_1 : (1 : Int32).toInt = 1 := rfl
          have hv_9 : v_9.toInt = x1_3.toInt + (1 : Int32).toInt := by rw [← ev_9]; exact fb_addI (by omega) (by omega)
          refine j_iinc (pc := 33) (v := v_9) (lv' := [(3, .int v_9), (2, .int v_8), (0, .ref n0), (1, .int p0)]) C dX7_stacks_33 1 rfl ev_9 (by decide) rfl ?_
          refine j_goto (pc := 36) (tgt := 4) C dX7_stacks_36 (by decide) ?_
          exact j_lv [0, 1, 2, 3] rfl (ih_1 v_9 v_8 (by omega) (by omega) (by have e : (v_9.toInt).toNat = (x1_3.toInt).toNat + 1 := (by omega); rw [e, stF_s]; rw [if_pos (ev_3.trans ((i_eq _ _).mpr (by omega))), ← hq_1_0, ev_6, ev_7]; exact ev_8.symm) (by omega))
  have el_0 : (0 : Int32).toInt = 0 := rfl
  have el_0 : (0 : Int32).toInt = 0 := rfl
  exact j_lv [0, 1, 2, 3] rfl (loop_1 4096 0 0 (by decide) (by decide) rfl (by omega))
set_option maxHeartbeats 4000000 in
set_option maxRecDepth 100000 in
theorem c_X7_size (l : Launch) (D : DG) (cyC cyI cyJ cyZ cyO : ClassId) (n0 : Nat) (n1 : Nat) (n2 : Nat) (n3 : Nat) (n4 : Nat) (p0 : Int32) (p1 : Int32) (n_askings : Int32) (n_cost : Int32) (n_laid : Int32) (n_shelf : Nat → Int32) (n_stack : Nat → Int32) (h_n_askings : 0 ≤ (n_askings).toInt ∧ (n_askings).toInt ≤ 30) (h_n_laid : 0 ≤ (n_laid).toInt ∧ (n_laid).toInt ≤ 1) (h_n_shelf : Iv 12 (-1) (3) n_shelf) (h_n_stack : Iv 12 (0) (7) n_stack) : KK l D (TY cyC cyI cyJ cyZ cyO) yX7_size cX7_size 5 (some .int) ({ frames := 1, cells := 0, slots := 0, locals := 23 } : Room) 0 0 [.ref n0, .int p0, .int p1] [(n0, .inr (7, [.ref n1, .ref n2, .ref n3, .ref n4, .int n_askings, .int n_cost, .int n_laid])), (n1, .inl (cyI, 12, .inl n_shelf)), (n2, .inl (cyI, 12, .inl n_stack))] (fun u => some (.int (u.2.1 0))) (fun u => (0 ≤ (u.2.1 0).toInt ∧ (u.2.1 0).toInt ≤ 12) ∧ ((u.2.1 0).toInt = ((cnB (std n_shelf n_stack p0 p1) 12 : Nat) : Int))) (fun u => [(n0, .inr (7, [.ref n1, .ref n2, .ref n3, .ref n4, .int n_askings, .int n_cost, .int n_laid])), (n1, .inl (cyI, 12, .inl n_shelf)), (n2, .inl (cyI, 12, .inl n_stack))]) := by
  refine KK.of (lv0 := [(0, .ref n0), (1, .int p0), (2, .int p1)]) (by decide) rfl (Nat.le_of_ble_eq_true rfl) ?_
  intro p e s m args below meth c A C hr hk hin
  refine j_iconst (pc := 0) (v := 0) C dX7_size_0 (by decide) ?_
  refine j_istore_n (pc := 1) (lv' := [(3, .int 0), (0, .ref n0), (1, .int p0), (2, .int p1)]) C dX7_size_1 rfl (by decide) rfl ?_
  refine j_iconst (pc := 2) (v := 0) C dX7_size_2 (by decide) ?_
  refine j_istore (pc := 3) (lv' := [(4, .int 0), (3, .int 0), (0, .ref n0), (1, .int p0), (2, .int p1)]) C dX7_size_3 (by decide) rfl ?_
  have loop_1 : ∀ (k_1 : Nat) (x1_4 : Int32) (x1_3 : Int32), (0 ≤ (x1_4).toInt ∧ (x1_4).toInt ≤ 12) → (0 ≤ (x1_3).toInt ∧ (x1_3).toInt ≤ 12) → (x1_3.toInt ≤ x1_4.toInt) → (x1_3.toInt = ((cnB (std n_shelf n_stack p0 p1) (x1_4.toInt).toNat : Nat) : Int)) → (12 - x1_4.toInt).toNat < k_1 → J p l e ({ frames := 1, cells := 0, slots := 0, locals := 23 } : Room) s m args below meth c D A 5 0 0 (QX below D (TY cyC cyI cyJ cyZ cyO) A (fun u => some (.int (u.2.1 0))) (fun u => (0 ≤ (u.2.1 0).toInt ∧ (u.2.1 0).toInt ≤ 12) ∧ ((u.2.1 0).toInt = ((cnB (std n_shelf n_stack p0 p1) 12 : Nat) : Int))) (fun u => [(n0, .inr (7, [.ref n1, .ref n2, .ref n3, .ref n4, .int n_askings, .int n_cost, .int n_laid])), (n1, .inl (cyI, 12, .inl n_shelf)), (n2, .inl (cyI, 12, .inl n_stack))]) args s 0 0) [(n0, .inr (7, [.ref n1, .ref n2, .ref n3, .ref n4, .int n_askings, .int n_cost, .int n_laid])), (n1, .inl (cyI, 12, .inl n_shelf)), (n2, .inl (cyI, 12, .inl n_stack))] 5 [(4, .int x1_4), (3, .int x1_3), (0, .ref n0), (1, .int p0), (2, .int p1)] [] := by
    intro k_1
    induction k_1 with
    | zero =>
      intro x1_4 x1_3 hi_1_0 hi_1_1 hr_1 hq_1_0 hm_1
      exact absurd hm_1 (Nat.not_lt_zero _)
    | succ k_1 ih_1 =>
      intro x1_4 x1_3 hi_1_0 hi_1_1 hr_1 hq_1_0 hm_1
      refine j_iload (pc := 5) C dX7_size_5 0 rfl ?_
      refine j_bipush (pc := 7) (v := 12) C dX7_size_7 (by decide) ?_
      refine j_icmp_ge (pc := 9) (tgt := 37) C dX7_size_9 (by decide) (fun c_2 => ?_) (fun c_2 => ?_)
      · skip
        have el_12 : (12 : Int32).toInt = 12 := rfl
        rw [i_le] at c_2
        have k0c_2 : x1_4.toInt = 12 := by omega
        refine j_iload_n (pc := 37) C dX7_size_37 rfl 1 rfl ?_
        exact j_iret (pc := 38) C hr hk (fun i => [].getD i 0, fun i => [x1_3].getD i 0, fun i => [].getD i (fun _ => 0), fun i => [].getD i (fun _ => 0)) rfl (show (0 ≤ (x1_3).toInt ∧ (x1_3).toInt ≤ 12) ∧ (x1_3.toInt = ((cnB (std n_shelf n_stack p0 p1) 12 : Nat) : Int)) from ⟨hi_1_1, (by rw [show (12 : Nat) = (x1_4).toInt.toNat from (by omega)]; exact hq_1_0)⟩) [0, 1, 2] (by decide) rfl (by decide) (by decide) dX7_size_38
      · skip
        have el_12 : (12 : Int32).toInt = 12 := rfl
        rw [i_le] at c_2
        refine j_iload_n (pc := 12) C dX7_size_12 rfl 1 rfl ?_
        refine j_aload_n (pc := 13) C dX7_size_13 rfl 2 rfl ?_
        refine j_iload (pc := 14) C dX7_size_14 0 rfl ?_
        refine j_iload_n (pc := 16) C dX7_size_16 rfl 3 rfl ?_
        refine j_iload_n (pc := 17) C dX7_size_17 rfl 4 rfl ?_
        refine j_callV (pc := 18) (As := [.int x1_4, .int p0, .int p1]) (rest := [.int x1_3]) (wr := []) C (c_X7_stands l D cyC cyI cyJ cyZ cyO n0 n1 n2 n3 n4 x1_4 p0 p1 n_askings n_cost n_laid n_shelf n_stack h_n_askings h_n_laid (by omega) h_n_shelf h_n_stack) wd_8 wd_9 wd_10 wd_11 wd_12 ⟨by decide, by decide, rfl⟩ rfl ⟨rfl, rfl, by decide, by decide⟩ ⟨by decide, by decide⟩ [0, 1, 2] [] rfl rfl ⟨by decide, by decide, by decide⟩ 0 rfl rfl rfl (Nat.le_of_ble_eq_true rfl) dX7_size_18 (fun u_3 hw_4 => ?_)
        refine j_eq (ws2 := [(n0, .inr (7, [.ref n1, .ref n2, .ref n3, .ref n4, .int n_askings, .int n_cost, .int n_laid])), (n1, .inl (cyI, 12, .inl n_shelf)), (n2, .inl (cyI, 12, .inl n_stack))]) (pc2 := 21) (lv2 := [(4, .int x1_4), (3, .int x1_3), (0, .ref n0), (1, .int p0), (2, .int p1)]) (st2 := [.int (u_3.2.1 0), .int x1_3]) rfl rfl rfl rfl ?_
        obtain ⟨hw_4_0, hw_4_1, hw_4_2⟩ := hw_4
        refine j_if_eq (pc := 21) (tgt := 28) C dX7_size_21 (by decide) (fun c_5 => ?_) (fun c_5 => ?_)
        · skip
          have el_0 : (0 : Int32).toInt = 0 := rfl
          rw [i_eq] at c_5
          refine j_iconst (pc := 28) (v := 0) C dX7_size_28 (by decide) ?_
          obtain ⟨v_6, ev_6⟩ : ∃ z : Int32, x1_3 + 0 = z := ⟨_, rfl⟩
          have el_0 : (0 : Int32).toInt = 0 := rfl
          have hv_6 : v_6.toInt = x1_3.toInt + (0 : Int32).toInt := by rw [← ev_6]; exact fb_addI (by omega) (by omega)
          refine j_iadd (pc := 29) (v := v_6) C dX7_size_29 ev_6 ?_
          refine j_istore_n (pc := 30) (lv' := [(3, .int v_6), (4, .int x1_4), (0, .ref n0), (1, .int p0), (2, .int p1)]) C dX7_size_30 rfl (by decide) rfl ?_
          obtain ⟨v_7, ev_7⟩ : ∃ z : Int32, x1_4 + 1 = z := ⟨_, rfl⟩
          have el_1 : (1 : Int32).toInt = 1 := rfl
          have hv_7 : v_7.toInt = x1_4.toInt + (1 : Int32).toInt := by rw [← ev_7]; exact fb_addI (by omega) (by omega)
          refine j_iinc (pc := 31) (v := v_7) (lv' := [(4, .int v_7), (3, .int v_6), (0, .ref n0), (1, .int p0), (2, .int p1)]) C dX7_size_31 1 rfl ev_7 (by decide) rfl ?_
          refine j_goto (pc := 34) (tgt := 5) C dX7_size_34 (by decide) ?_
          exact j_lv [0, 1, 2, 3, 4] rfl (ih_1 v_7 v_6 (by omega) (by omega) (by omega) (by rw [show (v_7.toInt).toNat = (x1_4).toInt.toNat + 1 from (by omega), cnB_n (P := (std n_shelf n_stack p0 p1)) (j := (x1_4).toInt.toNat) (fun z => by have y9 := std_iff.mp z; rcases hw_4_1 with h | h | h; omega; exact h y9.1; exact h y9.2)]; omega) (by omega))
        · skip
          have el_0 : (0 : Int32).toInt = 0 := rfl
          rw [i_eq] at c_5
          have k0c_5 : ((u_3.2.1 0)).toInt = 1 := by omega
          refine j_iconst (pc := 24) (v := 1) C dX7_size_24 (by decide) ?_
          refine j_goto (pc := 25) (tgt := 29) C dX7_size_25 (by decide) ?_
          obtain ⟨v_8, ev_8⟩ : ∃ z : Int32, x1_3 + 1 = z := ⟨_, rfl⟩
          have el_1 : (1 : Int32).toInt = 1 := rfl
          have hv_8 : v_8.toInt = x1_3.toInt + (1 : Int32).toInt := by rw [← ev_8]; exact fb_addI (by omega) (by omega)
          refine j_iadd (pc := 29) (v := v_8) C dX7_size_29 ev_8 ?_
          refine j_istore_n (pc := 30) (lv' := [(3, .int v_8), (4, .int x1_4), (0, .ref n0), (1, .int p0), (2, .int p1)]) C dX7_size_30 rfl (by decide) rfl ?_
          obtain ⟨v_9, ev_9⟩ : ∃ z : Int32, x1_4 + 1 = z := ⟨_, rfl⟩
          have el_1 : (1 : Int32).toInt = 1 := rfl
          have hv_9 : v_9.toInt = x1_4.toInt + (1 : Int32).toInt := by rw [← ev_9]; exact fb_addI (by omega) (by omega)
          refine j_iinc (pc := 31) (v := v_9) (lv' := [(4, .int v_9), (3, .int v_8), (0, .ref n0), (1, .int p0), (2, .int p1)]) C dX7_size_31 1 rfl ev_9 (by decide) rfl ?_
          refine j_goto (pc := 34) (tgt := 5) C dX7_size_34 (by decide) ?_
          exact j_lv [0, 1, 2, 3, 4] rfl (ih_1 v_9 v_8 (by omega) (by omega) (by omega) (by rw [show (v_9.toInt).toNat = (x1_4).toInt.toNat + 1 from (by omega), cnB_y (P := (std n_shelf n_stack p0 p1)) (j := (x1_4).toInt.toNat) (std_iff.mpr (by rcases hw_4_2 with h | h; (exfalso; omega); exact h))]; omega) (by omega))
  have el_0 : (0 : Int32).toInt = 0 := rfl
  have el_0 : (0 : Int32).toInt = 0 := rfl
  exact j_lv [0, 1, 2, 3, 4] rfl (loop_1 4096 0 0 (by decide) (by decide) (by omega) rfl (by omega))
set_option maxHeartbeats 4000000 in
set_option maxRecDepth 100000 in
theorem c_X7_outOf (l : Launch) (D : DG) (cyC cyI cyJ cyZ cyO : ClassId) (n0 : Nat) (n1 : Nat) (n2 : Nat) (n3 : Nat) (n4 : Nat) (p0 : Int32) (n_askings : Int32) (n_cost : Int32) (n_laid : Int32) (n_shelf : Nat → Int32) (h_n_askings : 0 ≤ (n_askings).toInt ∧ (n_askings).toInt ≤ 30) (h_n_laid : 0 ≤ (n_laid).toInt ∧ (n_laid).toInt ≤ 1) (h_p0 : 0 ≤ (p0).toInt ∧ (p0).toInt ≤ 12) (h_n_shelf : Iv 12 (-1) (3) n_shelf) : KK l D (TY cyC cyI cyJ cyZ cyO) yX7_outOf cX7_outOf 4 (some .int) ({ frames := 1, cells := 0, slots := 0, locals := 21 } : Room) 0 0 [.ref n0, .int p0] [(n0, .inr (7, [.ref n1, .ref n2, .ref n3, .ref n4, .int n_askings, .int n_cost, .int n_laid])), (n1, .inl (cyI, 12, .inl n_shelf))] (fun u => some (.int (u.2.1 0))) (fun u => (0 ≤ (u.2.1 0).toInt ∧ (u.2.1 0).toInt ≤ 12) ∧ ((u.2.1 0).toInt = ((cnB (oT n_shelf) (p0).toInt.toNat : Nat) : Int))) (fun u => [(n0, .inr (7, [.ref n1, .ref n2, .ref n3, .ref n4, .int n_askings, .int n_cost, .int n_laid])), (n1, .inl (cyI, 12, .inl n_shelf))]) := by
  refine KK.of (lv0 := [(0, .ref n0), (1, .int p0)]) (by decide) rfl (Nat.le_of_ble_eq_true rfl) ?_
  intro p e s m args below meth c A C hr hk hin
  refine j_iconst (pc := 0) (v := 0) C dX7_outOf_0 (by decide) ?_
  refine j_istore_n (pc := 1) (lv' := [(2, .int 0), (0, .ref n0), (1, .int p0)]) C dX7_outOf_1 rfl (by decide) rfl ?_
  refine j_iconst (pc := 2) (v := 0) C dX7_outOf_2 (by decide) ?_
  refine j_istore_n (pc := 3) (lv' := [(3, .int 0), (2, .int 0), (0, .ref n0), (1, .int p0)]) C dX7_outOf_3 rfl (by decide) rfl ?_
  have loop_1 : ∀ (k_1 : Nat) (x1_3 : Int32) (x1_2 : Int32), (0 ≤ (x1_3).toInt ∧ (x1_3).toInt ≤ 12) → (0 ≤ (x1_2).toInt ∧ (x1_2).toInt ≤ 12) → (x1_2.toInt ≤ x1_3.toInt ∧ x1_3.toInt ≤ (p0).toInt) → (x1_2.toInt = ((cnB (oT n_shelf) (x1_3.toInt).toNat : Nat) : Int)) → (12 - x1_3.toInt).toNat < k_1 → J p l e ({ frames := 1, cells := 0, slots := 0, locals := 21 } : Room) s m args below meth c D A 4 0 0 (QX below D (TY cyC cyI cyJ cyZ cyO) A (fun u => some (.int (u.2.1 0))) (fun u => (0 ≤ (u.2.1 0).toInt ∧ (u.2.1 0).toInt ≤ 12) ∧ ((u.2.1 0).toInt = ((cnB (oT n_shelf) (p0).toInt.toNat : Nat) : Int))) (fun u => [(n0, .inr (7, [.ref n1, .ref n2, .ref n3, .ref n4, .int n_askings, .int n_cost, .int n_laid])), (n1, .inl (cyI, 12, .inl n_shelf))]) args s 0 0) [(n0, .inr (7, [.ref n1, .ref n2, .ref n3, .ref n4, .int n_askings, .int n_cost, .int n_laid])), (n1, .inl (cyI, 12, .inl n_shelf))] 4 [(3, .int x1_3), (2, .int x1_2), (0, .ref n0), (1, .int p0)] [] := by
    intro k_1
    induction k_1 with
    | zero =>
      intro x1_3 x1_2 hi_1_0 hi_1_1 hr_1 hq_1_0 hm_1
      exact absurd hm_1 (Nat.not_lt_zero _)
    | succ k_1 ih_1 =>
      intro x1_3 x1_2 hi_1_0 hi_1_1 hr_1 hq_1_0 hm_1
      refine j_iload_n (pc := 4) C dX7_outOf_4 rfl 0 rfl ?_
      refine j_iload_n (pc := 5) C dX7_outOf_5 rfl 3 rfl ?_
      refine j_icmp_ge (pc := 6) (tgt := 31) C dX7_outOf_6 (by decide) (fun c_2 => ?_) (fun c_2 => ?_)
      · skip
        rw [i_le] at c_2
        refine j_iload_n (pc := 31) C dX7_outOf_31 rfl 1 rfl ?_
        exact j_iret (pc := 32) C hr hk (fun i => [].getD i 0, fun i => [x1_2].getD i 0, fun i => [].getD i (fun _ => 0), fun i => [].getD i (fun _ => 0)) rfl (show (0 ≤ (x1_2).toInt ∧ (x1_2).toInt ≤ 12) ∧ (x1_2.toInt = ((cnB (oT n_shelf) (p0).toInt.toNat : Nat) : Int)) from ⟨hi_1_1, (by rw [show (p0).toInt.toNat = (x1_3).toInt.toNat from (by omega)]; exact hq_1_0)⟩) [0, 1] (by decide) rfl (by decide) (by decide) dX7_outOf_32
      · skip
        rw [i_le] at c_2
        refine j_iload_n (pc := 9) C dX7_outOf_9 rfl 1 rfl ?_
        refine j_aload_n (pc := 10) C dX7_outOf_10 rfl 2 rfl ?_
        refine j_iload_n (pc := 11) C dX7_outOf_11 rfl 0 rfl ?_
        refine j_callV (pc := 12) (As := [.int x1_3]) (rest := [.int x1_2]) (wr := []) C (c_X7_isOut l D cyC cyI cyJ cyZ cyO n0 n1 n2 n3 n4 x1_3 n_askings n_cost n_laid n_shelf h_n_askings h_n_laid (by omega) h_n_shelf) wd_13 wd_9 wd_14 wd_15 wd_16 ⟨by decide, by decide, rfl⟩ rfl ⟨rfl, rfl, by decide, by decide⟩ ⟨by decide, by decide⟩ [0, 1] [] rfl rfl ⟨by decide, by decide, by decide⟩ 0 rfl rfl rfl (Nat.le_of_ble_eq_true rfl) dX7_outOf_12 (fun u_3 hw_4 => ?_)
        refine j_eq (ws2 := [(n0, .inr (7, [.ref n1, .ref n2, .ref n3, .ref n4, .int n_askings, .int n_cost, .int n_laid])), (n1, .inl (cyI, 12, .inl n_shelf))]) (pc2 := 15) (lv2 := [(3, .int x1_3), (2, .int x1_2), (0, .ref n0), (1, .int p0)]) (st2 := [.int (u_3.2.1 0), .int x1_2]) rfl rfl rfl rfl ?_
        obtain ⟨hw_4_0, hw_4_1, hw_4_2⟩ := hw_4
        refine j_if_eq (pc := 15) (tgt := 22) C dX7_outOf_15 (by decide) (fun c_5 => ?_) (fun c_5 => ?_)
        · skip
          have el_0 : (0 : Int32).toInt = 0 := rfl
          rw [i_eq] at c_5
          refine j_iconst (pc := 22) (v := 0) C dX7_outOf_22 (by decide) ?_
          obtain ⟨v_6, ev_6⟩ : ∃ z : Int32, x1_2 + 0 = z := ⟨_, rfl⟩
          have el_0 : (0 : Int32).toInt = 0 := rfl
          have hv_6 : v_6.toInt = x1_2.toInt + (0 : Int32).toInt := by rw [← ev_6]; exact fb_addI (by omega) (by omega)
          refine j_iadd (pc := 23) (v := v_6) C dX7_outOf_23 ev_6 ?_
          refine j_istore_n (pc := 24) (lv' := [(2, .int v_6), (3, .int x1_3), (0, .ref n0), (1, .int p0)]) C dX7_outOf_24 rfl (by decide) rfl ?_
          obtain ⟨v_7, ev_7⟩ : ∃ z : Int32, x1_3 + 1 = z := ⟨_, rfl⟩
          have el_1 : (1 : Int32).toInt = 1 := rfl
          have hv_7 : v_7.toInt = x1_3.toInt + (1 : Int32).toInt := by rw [← ev_7]; exact fb_addI (by omega) (by omega)
          refine j_iinc (pc := 25) (v := v_7) (lv' := [(3, .int v_7), (2, .int v_6), (0, .ref n0), (1, .int p0)]) C dX7_outOf_25 1 rfl ev_7 (by decide) rfl ?_
          refine j_goto (pc := 28) (tgt := 4) C dX7_outOf_28 (by decide) ?_
          exact j_lv [0, 1, 2, 3] rfl (ih_1 v_7 v_6 (by omega) (by omega) (by omega) (by rw [show (v_7.toInt).toNat = (x1_3).toInt.toNat + 1 from (by omega), cnB_n (P := (oT n_shelf)) (j := (x1_3).toInt.toNat) (fun z => by have y9 := oT_iff.mp z; omega)]; omega) (by omega))
        · skip
          have el_0 : (0 : Int32).toInt = 0 := rfl
          rw [i_eq] at c_5
          have k0c_5 : ((u_3.2.1 0)).toInt = 1 := by omega
          refine j_iconst (pc := 18) (v := 1) C dX7_outOf_18 (by decide) ?_
          refine j_goto (pc := 19) (tgt := 23) C dX7_outOf_19 (by decide) ?_
          obtain ⟨v_8, ev_8⟩ : ∃ z : Int32, x1_2 + 1 = z := ⟨_, rfl⟩
          have el_1 : (1 : Int32).toInt = 1 := rfl
          have hv_8 : v_8.toInt = x1_2.toInt + (1 : Int32).toInt := by rw [← ev_8]; exact fb_addI (by omega) (by omega)
          refine j_iadd (pc := 23) (v := v_8) C dX7_outOf_23 ev_8 ?_
          refine j_istore_n (pc := 24) (lv' := [(2, .int v_8), (3, .int x1_3), (0, .ref n0), (1, .int p0)]) C dX7_outOf_24 rfl (by decide) rfl ?_
          obtain ⟨v_9, ev_9⟩ : ∃ z : Int32, x1_3 + 1 = z := ⟨_, rfl⟩
          have el_1 : (1 : Int32).toInt = 1 := rfl
          have hv_9 : v_9.toInt = x1_3.toInt + (1 : Int32).toInt := by rw [← ev_9]; exact fb_addI (by omega) (by omega)
          refine j_iinc (pc := 25) (v := v_9) (lv' := [(3, .int v_9), (2, .int v_8), (0, .ref n0), (1, .int p0)]) C dX7_outOf_25 1 rfl ev_9 (by decide) rfl ?_
          refine j_goto (pc := 28) (tgt := 4) C dX7_outOf_28 (by decide) ?_
          exact j_lv [0, 1, 2, 3] rfl (ih_1 v_9 v_8 (by omega) (by omega) (by omega) (by rw [show (v_9.toInt).toNat = (x1_3).toInt.toNat + 1 from (by omega), cnB_y (P := (oT n_shelf)) (j := (x1_3).toInt.toNat) (oT_iff.mpr (by rcases hw_4_1 with h | h; (exfalso; omega); (rw [h]; rfl)))]; omega) (by omega))
  have el_0 : (0 : Int32).toInt = 0 := rfl
  have el_0 : (0 : Int32).toInt = 0 := rfl
  exact j_lv [0, 1, 2, 3] rfl (loop_1 4096 0 0 (by decide) (by decide) (by omega) rfl (by omega))
set_option maxHeartbeats 4000000 in
set_option maxRecDepth 100000 in
theorem c_X9_rise (l : Launch) (D : DG) (cyC cyI cyJ cyZ cyO : ClassId) (a0 : Nat) (a1 : Nat) (a2 : Nat) (a3 : Nat) (a4 : Nat) (a5 : Nat) (a6 : Nat) (a7 : Nat) (a8 : Nat) (a9 : Nat) (a10 : Nat) (p0 : Int32) (p1 : Int32) (a_wares : Int32) (a_shelves : Int32) (a_nests : Int32) (a_lids : Int32) (a_tops : Int32) (a_wide : Nat → Int32) (a_deep : Nat → Int32) (h_a_wares : 0 ≤ (a_wares).toInt ∧ (a_wares).toInt ≤ 12) (h_a_shelves : 0 ≤ (a_shelves).toInt ∧ (a_shelves).toInt ≤ 4) (h_a_nests : 0 ≤ (a_nests).toInt ∧ (a_nests).toInt ≤ 4) (h_p0 : 0 ≤ (p0).toInt ∧ (p0).toInt ≤ 11) (h_p1 : 0 ≤ (p1).toInt ∧ (p1).toInt ≤ 11) : KK l D (TY cyC cyI cyJ cyZ cyO) yX9_rise cX9_rise 4 (some .int) ({ frames := 0, cells := 0, slots := 0, locals := 0 } : Room) 0 0 [.ref a0, .int p0, .int p1] [(a0, .inr (9, [.int a_wares, .int a_shelves, .int a_nests, .ref a1, .ref a2, .ref a3, .ref a4, .ref a5, .ref a6, .int a_lids, .int a_tops, .ref a7, .ref a8, .ref a9, .ref a10])), (a1, .inl (cyI, 12, .inl a_wide)), (a2, .inl (cyI, 12, .inl a_deep))] (fun u => some (.int (u.2.1 0))) (fun u => ((u.2.1 0) = (rsC a_wide a_deep a_lids) (p0).toInt.toNat (p1).toInt.toNat)) (fun u => [(a0, .inr (9, [.int a_wares, .int a_shelves, .int a_nests, .ref a1, .ref a2, .ref a3, .ref a4, .ref a5, .ref a6, .int a_lids, .int a_tops, .ref a7, .ref a8, .ref a9, .ref a10])), (a1, .inl (cyI, 12, .inl a_wide)), (a2, .inl (cyI, 12, .inl a_deep))]) := by
  refine KK.of (lv0 := [(0, .ref a0), (1, .int p0), (2, .int p1)]) (by decide) rfl (Nat.le_of_ble_eq_true rfl) ?_
  intro p e s m args below meth c A C hr hk hin
  refine j_aload_n (pc := 0) C dX9_rise_0 rfl 0 rfl ?_
  refine j_get (pc := 1) (ci := 9) (v := .ref a1) C inw_9 0 rfl rfl 3 (by decide) wd_17 rfl rfl dX9_rise_1 ?_
  refine j_iload_n (pc := 4) C dX9_rise_4 rfl 1 rfl ?_
  obtain ⟨v_1, ev_1⟩ : ∃ z, a_wide (p0).toInt.toNat = z := ⟨_, rfl⟩
  have env_1 : (a_wide (p0).toInt.toNat).toInt = v_1.toInt := by rw [ev_1]
  refine j_iald (pc := 5) (v := v_1) (k := (p0).toInt.toNat) C 1 1 rfl rfl (i_nn h_p0.1) rfl (i_lt_n h_p0.1 (Int.lt_of_le_of_lt h_p0.2 (by decide))) ev_1 dX9_rise_5 ?_
  refine j_aload_n (pc := 6) C dX9_rise_6 rfl 0 rfl ?_
  refine j_get (pc := 7) (ci := 9) (v := .ref a1) C inw_9 0 rfl rfl 3 (by decide) wd_17 rfl rfl dX9_rise_7 ?_
  refine j_iload_n (pc := 10) C dX9_rise_10 rfl 2 rfl ?_
  obtain ⟨v_2, ev_2⟩ : ∃ z, a_wide (p1).toInt.toNat = z := ⟨_, rfl⟩
  have env_2 : (a_wide (p1).toInt.toNat).toInt = v_2.toInt := by rw [ev_2]
  refine j_iald (pc := 11) (v := v_2) (k := (p1).toInt.toNat) C 1 1 rfl rfl (i_nn h_p1.1) rfl (i_lt_n h_p1.1 (Int.lt_of_le_of_lt h_p1.2 (by decide))) ev_2 dX9_rise_11 ?_
  refine j_icmp_ge (pc := 12) (tgt := 30) C dX9_rise_12 (by decide) (fun c_3 => ?_) (fun c_3 => ?_)
  · skip
    rw [i_le] at c_3
    refine j_iconst (pc := 30) (v := 0) C dX9_rise_30 (by decide) ?_
    refine j_istore_n (pc := 31) (lv' := [(3, .int 0), (0, .ref a0), (1, .int p0), (2, .int p1)]) C dX9_rise_31 rfl (by decide) rfl ?_
    refine j_iload_n (pc := 32) C dX9_rise_32 rfl 0 rfl ?_
    refine j_if_eq_t (pc := 33) (tgt := 40) C dX9_rise_33 (by decide) (by decide) ?_
    refine j_aload_n (pc := 40) C dX9_rise_40 rfl 1 rfl ?_
    refine j_get (pc := 41) (ci := 9) (v := .ref a2) C inw_9 0 rfl rfl 4 (by decide) wd_18 rfl rfl dX9_rise_41 ?_
    refine j_iload_n (pc := 44) C dX9_rise_44 rfl 3 rfl ?_
    obtain ⟨v_4, ev_4⟩ : ∃ z, a_deep (p1).toInt.toNat = z := ⟨_, rfl⟩
    have env_4 : (a_deep (p1).toInt.toNat).toInt = v_4.toInt := by rw [ev_4]
    refine j_iald (pc := 45) (v := v_4) (k := (p1).toInt.toNat) C 2 1 rfl rfl (i_nn h_p1.1) rfl (i_lt_n h_p1.1 (Int.lt_of_le_of_lt h_p1.2 (by decide))) ev_4 dX9_rise_45 ?_
    exact j_iret (pc := 46) C hr hk (fun i => [].getD i 0, fun i => [v_4].getD i 0, fun i => [].getD i (fun _ => 0), fun i => [].getD i (fun _ => 0)) rfl (show (v_4 = (rsC a_wide a_deep a_lids) (p0).toInt.toNat (p1).toInt.toNat) from ((by unfold rsC; rw [if_neg (fun z => by have z1 := z.1; omega)]; exact ev_4.symm))) [0, 1, 2] (by decide) rfl (by decide) (by decide) dX9_rise_46
  · skip
    rw [i_le] at c_3
    refine j_aload_n (pc := 15) C dX9_rise_15 rfl 0 rfl ?_
    refine j_get (pc := 16) (ci := 9) (v := .int a_lids) C inw_9 0 rfl rfl 9 (by decide) wd_19 rfl rfl dX9_rise_16 ?_
    refine j_iload_n (pc := 19) C dX9_rise_19 rfl 2 rfl ?_
    obtain ⟨v_5, ev_5⟩ : ∃ z : Int32, ((a_lids : Int32).toUInt32 >>> ((p1 : Int32).toUInt32 &&& Int32.toUInt32 31)).toInt32 = z := ⟨_, rfl⟩
    refine j_iushr (pc := 20) (v := v_5) C dX9_rise_20 ev_5 ?_
    refine j_iconst (pc := 21) (v := 1) C dX9_rise_21 (by decide) ?_
    obtain ⟨v_6, ev_6⟩ : ∃ z : Int32, v_5 &&& 1 = z := ⟨_, rfl⟩
    have el_1 : (1 : Int32).toInt = 1 := rfl
    have hv_6 : 0 ≤ v_6.toInt ∧ v_6.toInt ≤ 1 := by rw [← ev_6]; exact and1_r _
    refine j_iand (pc := 22) (v := v_6) C dX9_rise_22 ev_6 ?_
    have hb9 : v_6.toInt = if BT a_lids (p1).toInt.toNat = true then 1 else 0 := by rw [← ev_6, ← ev_5]; exact bt_rd (by omega) (by omega)
    refine j_if_ne (pc := 23) (tgt := 30) C dX9_rise_23 (by decide) (fun c_7 => ?_) (fun c_7 => ?_)
    · skip
      have el_0 : (0 : Int32).toInt = 0 := rfl
      rw [i_eq] at c_7
      have k0c_7 : v_6.toInt = 1 := by omega
      refine j_iconst (pc := 30) (v := 0) C dX9_rise_30 (by decide) ?_
      refine j_istore_n (pc := 31) (lv' := [(3, .int 0), (0, .ref a0), (1, .int p0), (2, .int p1)]) C dX9_rise_31 rfl (by decide) rfl ?_
      refine j_iload_n (pc := 32) C dX9_rise_32 rfl 0 rfl ?_
      refine j_if_eq_t (pc := 33) (tgt := 40) C dX9_rise_33 (by decide) (by decide) ?_
      refine j_aload_n (pc := 40) C dX9_rise_40 rfl 1 rfl ?_
      refine j_get (pc := 41) (ci := 9) (v := .ref a2) C inw_9 0 rfl rfl 4 (by decide) wd_18 rfl rfl dX9_rise_41 ?_
      refine j_iload_n (pc := 44) C dX9_rise_44 rfl 3 rfl ?_
      obtain ⟨v_8, ev_8⟩ : ∃ z, a_deep (p1).toInt.toNat = z := ⟨_, rfl⟩
      have env_8 : (a_deep (p1).toInt.toNat).toInt = v_8.toInt := by rw [ev_8]
      refine j_iald (pc := 45) (v := v_8) (k := (p1).toInt.toNat) C 2 1 rfl rfl (i_nn h_p1.1) rfl (i_lt_n h_p1.1 (Int.lt_of_le_of_lt h_p1.2 (by decide))) ev_8 dX9_rise_45 ?_
      exact j_iret (pc := 46) C hr hk (fun i => [].getD i 0, fun i => [v_8].getD i 0, fun i => [].getD i (fun _ => 0), fun i => [].getD i (fun _ => 0)) rfl (show (v_8 = (rsC a_wide a_deep a_lids) (p0).toInt.toNat (p1).toInt.toNat) from ((by unfold rsC; rw [if_neg (fun z => by have z2 := z.2; rw [z2, if_neg (by decide)] at hb9; omega)]; exact ev_8.symm))) [0, 1, 2] (by decide) rfl (by decide) (by decide) dX9_rise_46
    · skip
      have el_0 : (0 : Int32).toInt = 0 := rfl
      rw [i_eq] at c_7
      refine j_iconst (pc := 26) (v := 1) C dX9_rise_26 (by decide) ?_
      refine j_goto (pc := 27) (tgt := 31) C dX9_rise_27 (by decide) ?_
      refine j_istore_n (pc := 31) (lv' := [(3, .int 1), (0, .ref a0), (1, .int p0), (2, .int p1)]) C dX9_rise_31 rfl (by decide) rfl ?_
      refine j_iload_n (pc := 32) C dX9_rise_32 rfl 0 rfl ?_
      refine j_if_eq_f (pc := 33) (tgt := 40) C dX9_rise_33 (by decide) (by decide) ?_
      refine j_iconst (pc := 36) (v := 1) C dX9_rise_36 (by decide) ?_
      refine j_goto (pc := 37) (tgt := 46) C dX9_rise_37 (by decide) ?_
      have el_1 : (1 : Int32).toInt = 1 := rfl
      exact j_iret (pc := 46) C hr hk (fun i => [].getD i 0, fun i => [1].getD i 0, fun i => [].getD i (fun _ => 0), fun i => [].getD i (fun _ => 0)) rfl (show ((1 : Int32) = (rsC a_wide a_deep a_lids) (p0).toInt.toNat (p1).toInt.toNat) from ((by unfold rsC; rw [if_pos ⟨by omega, by (by_cases q : BT a_lids (p1).toInt.toNat = true; (rw [if_pos q] at hb9; exfalso; omega); exact Bool.eq_false_iff.mpr q)⟩]))) [0, 1, 2] (by decide) rfl (by decide) (by decide) dX9_rise_46
set_option maxHeartbeats 4000000 in
set_option maxRecDepth 100000 in
theorem c_X9_weightOf (l : Launch) (D : DG) (cyC cyI cyJ cyZ cyO : ClassId) (a0 : Nat) (a3 : Nat) (a1 : Nat) (a2 : Nat) (a4 : Nat) (a5 : Nat) (a6 : Nat) (a7 : Nat) (a8 : Nat) (a9 : Nat) (a10 : Nat) (p0 : Int32) (a_wares : Int32) (a_shelves : Int32) (a_nests : Int32) (a_lids : Int32) (a_tops : Int32) (a_weight : Nat → Int32) (h_a_wares : 0 ≤ (a_wares).toInt ∧ (a_wares).toInt ≤ 12) (h_a_shelves : 0 ≤ (a_shelves).toInt ∧ (a_shelves).toInt ≤ 4) (h_a_nests : 0 ≤ (a_nests).toInt ∧ (a_nests).toInt ≤ 4) : KK l D (TY cyC cyI cyJ cyZ cyO) yX9_weightOf cX9_weightOf 4 (some .int) ({ frames := 0, cells := 0, slots := 0, locals := 0 } : Room) 0 0 [.ref a0, .int p0] [(a0, .inr (9, [.int a_wares, .int a_shelves, .int a_nests, .ref a1, .ref a2, .ref a3, .ref a4, .ref a5, .ref a6, .int a_lids, .int a_tops, .ref a7, .ref a8, .ref a9, .ref a10])), (a3, .inl (cyI, 12, .inl a_weight))] (fun u => some (.int (u.2.1 0))) (fun u => True) (fun u => [(a0, .inr (9, [.int a_wares, .int a_shelves, .int a_nests, .ref a1, .ref a2, .ref a3, .ref a4, .ref a5, .ref a6, .int a_lids, .int a_tops, .ref a7, .ref a8, .ref a9, .ref a10])), (a3, .inl (cyI, 12, .inl a_weight))]) := by
  refine KK.of (lv0 := [(0, .ref a0), (1, .int p0)]) (by decide) rfl (Nat.le_of_ble_eq_true rfl) ?_
  intro p e s m args below meth c A C hr hk hin
  refine j_iconst (pc := 0) (v := 0) C dX9_weightOf_0 (by decide) ?_
  refine j_istore_n (pc := 1) (lv' := [(2, .int 0), (0, .ref a0), (1, .int p0)]) C dX9_weightOf_1 rfl (by decide) rfl ?_
  refine j_iconst (pc := 2) (v := 0) C dX9_weightOf_2 (by decide) ?_
  refine j_istore_n (pc := 3) (lv' := [(3, .int 0), (2, .int 0), (0, .ref a0), (1, .int p0)]) C dX9_weightOf_3 rfl (by decide) rfl ?_
  have loop_1 : ∀ (k_1 : Nat) (x1_3 : Int32) (x1_2 : Int32), (0 ≤ (x1_3).toInt ∧ (x1_3).toInt ≤ 12) → (12 - x1_3.toInt).toNat < k_1 → J p l e ({ frames := 0, cells := 0, slots := 0, locals := 0 } : Room) s m args below meth c D A 4 0 0 (QX below D (TY cyC cyI cyJ cyZ cyO) A (fun u => some (.int (u.2.1 0))) (fun u => True) (fun u => [(a0, .inr (9, [.int a_wares, .int a_shelves, .int a_nests, .ref a1, .ref a2, .ref a3, .ref a4, .ref a5, .ref a6, .int a_lids, .int a_tops, .ref a7, .ref a8, .ref a9, .ref a10])), (a3, .inl (cyI, 12, .inl a_weight))]) args s 0 0) [(a0, .inr (9, [.int a_wares, .int a_shelves, .int a_nests, .ref a1, .ref a2, .ref a3, .ref a4, .ref a5, .ref a6, .int a_lids, .int a_tops, .ref a7, .ref a8, .ref a9, .ref a10])), (a3, .inl (cyI, 12, .inl a_weight))] 4 [(3, .int x1_3), (2, .int x1_2), (0, .ref a0), (1, .int p0)] [] := by
    intro k_1
    induction k_1 with
    | zero =>
      intro x1_3 x1_2 hi_1_0 hm_1
      exact absurd hm_1 (Nat.not_lt_zero _)
    | succ k_1 ih_1 =>
      intro x1_3 x1_2 hi_1_0 hm_1
      refine j_iload_n (pc := 4) C dX9_weightOf_4 rfl 0 rfl ?_
      refine j_aload_n (pc := 5) C dX9_weightOf_5 rfl 2 rfl ?_
      refine j_get (pc := 6) (ci := 9) (v := .int a_wares) C inw_9 0 rfl rfl 0 (by decide) wd_0 rfl rfl dX9_weightOf_6 ?_
      refine j_icmp_ge (pc := 9) (tgt := 33) C dX9_weightOf_9 (by decide) (fun c_2 => ?_) (fun c_2 => ?_)
      · skip
        rw [i_le] at c_2
        refine j_iload_n (pc := 33) C dX9_weightOf_33 rfl 1 rfl ?_
        exact j_iret (pc := 34) C hr hk (fun i => [].getD i 0, fun i => [x1_2].getD i 0, fun i => [].getD i (fun _ => 0), fun i => [].getD i (fun _ => 0)) rfl trivial [0, 1] (by decide) rfl (by decide) (by decide) dX9_weightOf_34
      · skip
        rw [i_le] at c_2
        refine j_iload_n (pc := 12) C dX9_weightOf_12 rfl 1 rfl ?_
        refine j_iload_n (pc := 13) C dX9_weightOf_13 rfl 3 rfl ?_
        refine j_iload_n (pc := 14) C dX9_weightOf_14 rfl 0 rfl ?_
        obtain ⟨v_3, ev_3⟩ : ∃ z : Int32, ((p0 : Int32).toUInt32 >>> ((x1_3 : Int32).toUInt32 &&& Int32.toUInt32 31)).toInt32 = z := ⟨_, rfl⟩
        refine j_iushr (pc := 15) (v := v_3) C dX9_weightOf_15 ev_3 ?_
        refine j_iconst (pc := 16) (v := 1) C dX9_weightOf_16 (by decide) ?_
        obtain ⟨v_4, ev_4⟩ : ∃ z : Int32, v_3 &&& 1 = z := ⟨_, rfl⟩
        have el_1 : (1 : Int32).toInt = 1 := rfl
        have hv_4 : 0 ≤ v_4.toInt ∧ v_4.toInt ≤ 1 := by rw [← ev_4]; exact and1_r _
        refine j_iand (pc := 17) (v := v_4) C dX9_weightOf_17 ev_4 ?_
        refine j_aload_n (pc := 18) C dX9_weightOf_18 rfl 2 rfl ?_
        refine j_get (pc := 19) (ci := 9) (v := .ref a3) C inw_9 0 rfl rfl 5 (by decide) wd_20 rfl rfl dX9_weightOf_19 ?_
        refine j_iload_n (pc := 22) C dX9_weightOf_22 rfl 0 rfl ?_
        obtain ⟨v_5, ev_5⟩ : ∃ z, a_weight (x1_3).toInt.toNat = z := ⟨_, rfl⟩
        have env_5 : (a_weight (x1_3).toInt.toNat).toInt = v_5.toInt := by rw [ev_5]
        refine j_iald (pc := 23) (v := v_5) (k := (x1_3).toInt.toNat) C 1 1 rfl rfl (i_nn hi_1_0.1) rfl (i_lt_n hi_1_0.1 (by omega)) ev_5 dX9_weightOf_23 ?_
        obtain ⟨v_6, ev_6⟩ : ∃ z : Int32, v_4 * v_5 = z := ⟨_, rfl⟩
        refine j_imul (pc := 24) (v := v_6) C dX9_weightOf_24 ev_6 ?_
        obtain ⟨v_7, ev_7⟩ : ∃ z : Int32, x1_2 + v_6 = z := ⟨_, rfl⟩
        refine j_iadd (pc := 25) (v := v_7) C dX9_weightOf_25 ev_7 ?_
        refine j_istore_n (pc := 26) (lv' := [(2, .int v_7), (3, .int x1_3), (0, .ref a0), (1, .int p0)]) C dX9_weightOf_26 rfl (by decide) rfl ?_
        obtain ⟨v_8, ev_8⟩ : ∃ z : Int32, x1_3 + 1 = z := ⟨_, rfl⟩
        have el_1 : (1 : Int32).toInt = 1 := rfl
        have hv_8 : v_8.toInt = x1_3.toInt + (1 : Int32).toInt := by rw [← ev_8]; exact fb_addI (by omega) (by omega)
        refine j_iinc (pc := 27) (v := v_8) (lv' := [(3, .int v_8), (2, .int v_7), (0, .ref a0), (1, .int p0)]) C dX9_weightOf_27 1 rfl ev_8 (by decide) rfl ?_
        refine j_goto (pc := 30) (tgt := 4) C dX9_weightOf_30 (by decide) ?_
        exact j_lv [0, 1, 2, 3] rfl (ih_1 v_8 v_7 (by omega) (by omega))
  have el_0 : (0 : Int32).toInt = 0 := rfl
  have el_0 : (0 : Int32).toInt = 0 := rfl
  exact j_lv [0, 1, 2, 3] rfl (loop_1 4096 0 0 (by decide) (by omega))
theorem wd_21 : Cond.fieldLink RX7 18 "BowlShelf$Standing" "level" "[I" ∈ WALL := wl_in (by decide +kernel) (by decide +kernel)
theorem wd_22 : Cond.fieldLink RX7 30 "BowlShelf$Standing" "askings" "I" ∈ WALL := wl_in (by decide +kernel) (by decide +kernel)
theorem wd_23 : Cond.fieldLink RX7 21 "BowlShelf$Standing" "asking" "[I" ∈ WALL := wl_in (by decide +kernel) (by decide +kernel)
theorem wd_24 : Cond.methodLink RX7 34 arraycopyName ∈ WALL := wl_in (by decide +kernel) (by decide +kernel)
theorem wd_25 : Cond.native arraycopyName ∈ WALL := wl_in (by decide +kernel) (by decide +kernel)
theorem wd_26 : Cond.static arraycopyName ∈ WALL := wl_in (by decide +kernel) (by decide +kernel)
theorem wd_27 : Cond.initialized "java/lang/System" ∈ WALL := wl_in (by decide +kernel) (by decide +kernel)
theorem wd_28 : Cond.fieldLink RX7 40 "BowlShelf$Standing" "cost" "I" ∈ WALL := wl_in (by decide +kernel) (by decide +kernel)
theorem dX7_sinkAbove_0 : decode cX7_sinkAbove 0 = .ok (.iconst 0, 1) := by decide +kernel
theorem dX7_sinkAbove_1 : decode cX7_sinkAbove 1 = .ok (.istore_n 2, 1) := by decide +kernel
theorem dX7_sinkAbove_2 : decode cX7_sinkAbove 2 = .ok (.iload_n 2, 1) := by decide +kernel
theorem dX7_sinkAbove_3 : decode cX7_sinkAbove 3 = .ok (.bipush 12, 2) := by decide +kernel
theorem dX7_sinkAbove_5 : decode cX7_sinkAbove 5 = .ok (.if_icmp .ge 54, 3) := by decide +kernel
theorem dX7_sinkAbove_8 : decode cX7_sinkAbove 8 = .ok (.aload_n 0, 1) := by decide +kernel
theorem dX7_sinkAbove_9 : decode cX7_sinkAbove 9 = .ok (.iload_n 2, 1) := by decide +kernel
theorem dX7_sinkAbove_10 : decode cX7_sinkAbove 10 = .ok (.aload_n 0, 1) := by decide +kernel
theorem dX7_sinkAbove_11 : decode cX7_sinkAbove 11 = .ok (.getfield 9, 3) := by decide +kernel
theorem dX7_sinkAbove_14 : decode cX7_sinkAbove 14 = .ok (.iload_n 1, 1) := by decide +kernel
theorem dX7_sinkAbove_15 : decode cX7_sinkAbove 15 = .ok (.iaload, 1) := by decide +kernel
theorem dX7_sinkAbove_16 : decode cX7_sinkAbove 16 = .ok (.aload_n 0, 1) := by decide +kernel
theorem dX7_sinkAbove_17 : decode cX7_sinkAbove 17 = .ok (.getfield 15, 3) := by decide +kernel
theorem dX7_sinkAbove_20 : decode cX7_sinkAbove 20 = .ok (.iload_n 1, 1) := by decide +kernel
theorem dX7_sinkAbove_21 : decode cX7_sinkAbove 21 = .ok (.iaload, 1) := by decide +kernel
theorem dX7_sinkAbove_22 : decode cX7_sinkAbove 22 = .ok (.invokevirtual 53, 3) := by decide +kernel
theorem dX7_sinkAbove_25 : decode cX7_sinkAbove 25 = .ok (.ifCond .eq 28, 3) := by decide +kernel
theorem dX7_sinkAbove_28 : decode cX7_sinkAbove 28 = .ok (.aload_n 0, 1) := by decide +kernel
theorem dX7_sinkAbove_29 : decode cX7_sinkAbove 29 = .ok (.getfield 18, 3) := by decide +kernel
theorem dX7_sinkAbove_32 : decode cX7_sinkAbove 32 = .ok (.iload_n 2, 1) := by decide +kernel
theorem dX7_sinkAbove_33 : decode cX7_sinkAbove 33 = .ok (.iaload, 1) := by decide +kernel
theorem dX7_sinkAbove_34 : decode cX7_sinkAbove 34 = .ok (.aload_n 0, 1) := by decide +kernel
theorem dX7_sinkAbove_35 : decode cX7_sinkAbove 35 = .ok (.getfield 18, 3) := by decide +kernel
theorem dX7_sinkAbove_38 : decode cX7_sinkAbove 38 = .ok (.iload_n 1, 1) := by decide +kernel
theorem dX7_sinkAbove_39 : decode cX7_sinkAbove 39 = .ok (.iaload, 1) := by decide +kernel
theorem dX7_sinkAbove_40 : decode cX7_sinkAbove 40 = .ok (.if_icmp .le 13, 3) := by decide +kernel
theorem dX7_sinkAbove_43 : decode cX7_sinkAbove 43 = .ok (.aload_n 0, 1) := by decide +kernel
theorem dX7_sinkAbove_44 : decode cX7_sinkAbove 44 = .ok (.getfield 18, 3) := by decide +kernel
theorem dX7_sinkAbove_47 : decode cX7_sinkAbove 47 = .ok (.iload_n 2, 1) := by decide +kernel
theorem dX7_sinkAbove_48 : decode cX7_sinkAbove 48 = .ok (.dup2, 1) := by decide +kernel
theorem dX7_sinkAbove_49 : decode cX7_sinkAbove 49 = .ok (.iaload, 1) := by decide +kernel
theorem dX7_sinkAbove_50 : decode cX7_sinkAbove 50 = .ok (.iconst 1, 1) := by decide +kernel
theorem dX7_sinkAbove_51 : decode cX7_sinkAbove 51 = .ok (.isub, 1) := by decide +kernel
theorem dX7_sinkAbove_52 : decode cX7_sinkAbove 52 = .ok (.iastore, 1) := by decide +kernel
theorem dX7_sinkAbove_53 : decode cX7_sinkAbove 53 = .ok (.iinc 2 1, 3) := by decide +kernel
theorem dX7_sinkAbove_56 : decode cX7_sinkAbove 56 = .ok (.goto (-54), 3) := by decide +kernel
theorem dX7_sinkAbove_59 : decode cX7_sinkAbove 59 = .ok (.return_, 1) := by decide +kernel
theorem dX7_closeGap_0 : decode cX7_closeGap 0 = .ok (.iconst 0, 1) := by decide +kernel
theorem dX7_closeGap_1 : decode cX7_closeGap 1 = .ok (.istore_n 3, 1) := by decide +kernel
theorem dX7_closeGap_2 : decode cX7_closeGap 2 = .ok (.iload_n 3, 1) := by decide +kernel
theorem dX7_closeGap_3 : decode cX7_closeGap 3 = .ok (.bipush 12, 2) := by decide +kernel
theorem dX7_closeGap_5 : decode cX7_closeGap 5 = .ok (.if_icmp .ge 39, 3) := by decide +kernel
theorem dX7_closeGap_8 : decode cX7_closeGap 8 = .ok (.aload_n 0, 1) := by decide +kernel
theorem dX7_closeGap_9 : decode cX7_closeGap 9 = .ok (.getfield 9, 3) := by decide +kernel
theorem dX7_closeGap_12 : decode cX7_closeGap 12 = .ok (.iload_n 3, 1) := by decide +kernel
theorem dX7_closeGap_13 : decode cX7_closeGap 13 = .ok (.iaload, 1) := by decide +kernel
theorem dX7_closeGap_14 : decode cX7_closeGap 14 = .ok (.iload_n 1, 1) := by decide +kernel
theorem dX7_closeGap_15 : decode cX7_closeGap 15 = .ok (.if_icmp .ne 23, 3) := by decide +kernel
theorem dX7_closeGap_18 : decode cX7_closeGap 18 = .ok (.aload_n 0, 1) := by decide +kernel
theorem dX7_closeGap_19 : decode cX7_closeGap 19 = .ok (.getfield 15, 3) := by decide +kernel
theorem dX7_closeGap_22 : decode cX7_closeGap 22 = .ok (.iload_n 3, 1) := by decide +kernel
theorem dX7_closeGap_23 : decode cX7_closeGap 23 = .ok (.iaload, 1) := by decide +kernel
theorem dX7_closeGap_24 : decode cX7_closeGap 24 = .ok (.iload_n 2, 1) := by decide +kernel
theorem dX7_closeGap_25 : decode cX7_closeGap 25 = .ok (.if_icmp .le 13, 3) := by decide +kernel
theorem dX7_closeGap_28 : decode cX7_closeGap 28 = .ok (.aload_n 0, 1) := by decide +kernel
theorem dX7_closeGap_29 : decode cX7_closeGap 29 = .ok (.getfield 15, 3) := by decide +kernel
theorem dX7_closeGap_32 : decode cX7_closeGap 32 = .ok (.iload_n 3, 1) := by decide +kernel
theorem dX7_closeGap_33 : decode cX7_closeGap 33 = .ok (.dup2, 1) := by decide +kernel
theorem dX7_closeGap_34 : decode cX7_closeGap 34 = .ok (.iaload, 1) := by decide +kernel
theorem dX7_closeGap_35 : decode cX7_closeGap 35 = .ok (.iconst 1, 1) := by decide +kernel
theorem dX7_closeGap_36 : decode cX7_closeGap 36 = .ok (.isub, 1) := by decide +kernel
theorem dX7_closeGap_37 : decode cX7_closeGap 37 = .ok (.iastore, 1) := by decide +kernel
theorem dX7_closeGap_38 : decode cX7_closeGap 38 = .ok (.iinc 3 1, 3) := by decide +kernel
theorem dX7_closeGap_41 : decode cX7_closeGap 41 = .ok (.goto (-39), 3) := by decide +kernel
theorem dX7_closeGap_44 : decode cX7_closeGap 44 = .ok (.return_, 1) := by decide +kernel
theorem dX7_lifts_0 : decode cX7_lifts 0 = .ok (.iconst 0, 1) := by decide +kernel
theorem dX7_lifts_1 : decode cX7_lifts 1 = .ok (.istore_n 2, 1) := by decide +kernel
theorem dX7_lifts_2 : decode cX7_lifts 2 = .ok (.iconst 0, 1) := by decide +kernel
theorem dX7_lifts_3 : decode cX7_lifts 3 = .ok (.istore_n 3, 1) := by decide +kernel
theorem dX7_lifts_4 : decode cX7_lifts 4 = .ok (.iload_n 3, 1) := by decide +kernel
theorem dX7_lifts_5 : decode cX7_lifts 5 = .ok (.aload_n 0, 1) := by decide +kernel
theorem dX7_lifts_6 : decode cX7_lifts 6 = .ok (.getfield 30, 3) := by decide +kernel
theorem dX7_lifts_9 : decode cX7_lifts 9 = .ok (.if_icmp .ge 82, 3) := by decide +kernel
theorem dX7_lifts_12 : decode cX7_lifts 12 = .ok (.aload_n 0, 1) := by decide +kernel
theorem dX7_lifts_13 : decode cX7_lifts 13 = .ok (.getfield 21, 3) := by decide +kernel
theorem dX7_lifts_16 : decode cX7_lifts 16 = .ok (.iload_n 3, 1) := by decide +kernel
theorem dX7_lifts_17 : decode cX7_lifts 17 = .ok (.iaload, 1) := by decide +kernel
theorem dX7_lifts_18 : decode cX7_lifts 18 = .ok (.istore 4, 2) := by decide +kernel
theorem dX7_lifts_20 : decode cX7_lifts 20 = .ok (.aload_n 0, 1) := by decide +kernel
theorem dX7_lifts_21 : decode cX7_lifts 21 = .ok (.iload 4, 2) := by decide +kernel
theorem dX7_lifts_23 : decode cX7_lifts 23 = .ok (.invokevirtual 43, 3) := by decide +kernel
theorem dX7_lifts_26 : decode cX7_lifts 26 = .ok (.ifCond .ne 59, 3) := by decide +kernel
theorem dX7_lifts_29 : decode cX7_lifts 29 = .ok (.aload_n 0, 1) := by decide +kernel
theorem dX7_lifts_30 : decode cX7_lifts 30 = .ok (.iload_n 1, 1) := by decide +kernel
theorem dX7_lifts_31 : decode cX7_lifts 31 = .ok (.aload_n 0, 1) := by decide +kernel
theorem dX7_lifts_32 : decode cX7_lifts 32 = .ok (.getfield 9, 3) := by decide +kernel
theorem dX7_lifts_35 : decode cX7_lifts 35 = .ok (.iload 4, 2) := by decide +kernel
theorem dX7_lifts_37 : decode cX7_lifts 37 = .ok (.iaload, 1) := by decide +kernel
theorem dX7_lifts_38 : decode cX7_lifts 38 = .ok (.aload_n 0, 1) := by decide +kernel
theorem dX7_lifts_39 : decode cX7_lifts 39 = .ok (.getfield 15, 3) := by decide +kernel
theorem dX7_lifts_42 : decode cX7_lifts 42 = .ok (.iload 4, 2) := by decide +kernel
theorem dX7_lifts_44 : decode cX7_lifts 44 = .ok (.iaload, 1) := by decide +kernel
theorem dX7_lifts_45 : decode cX7_lifts 45 = .ok (.invokevirtual 53, 3) := by decide +kernel
theorem dX7_lifts_48 : decode cX7_lifts 48 = .ok (.ifCond .eq 37, 3) := by decide +kernel
theorem dX7_lifts_51 : decode cX7_lifts 51 = .ok (.iload_n 2, 1) := by decide +kernel
theorem dX7_lifts_52 : decode cX7_lifts 52 = .ok (.iload 4, 2) := by decide +kernel
theorem dX7_lifts_54 : decode cX7_lifts 54 = .ok (.iload_n 1, 1) := by decide +kernel
theorem dX7_lifts_55 : decode cX7_lifts 55 = .ok (.if_icmp .ne 7, 3) := by decide +kernel
theorem dX7_lifts_58 : decode cX7_lifts 58 = .ok (.iconst 1, 1) := by decide +kernel
theorem dX7_lifts_59 : decode cX7_lifts 59 = .ok (.goto 24, 3) := by decide +kernel
theorem dX7_lifts_62 : decode cX7_lifts 62 = .ok (.aload_n 0, 1) := by decide +kernel
theorem dX7_lifts_63 : decode cX7_lifts 63 = .ok (.getfield 18, 3) := by decide +kernel
theorem dX7_lifts_66 : decode cX7_lifts 66 = .ok (.iload_n 1, 1) := by decide +kernel
theorem dX7_lifts_67 : decode cX7_lifts 67 = .ok (.iaload, 1) := by decide +kernel
theorem dX7_lifts_68 : decode cX7_lifts 68 = .ok (.aload_n 0, 1) := by decide +kernel
theorem dX7_lifts_69 : decode cX7_lifts 69 = .ok (.getfield 18, 3) := by decide +kernel
theorem dX7_lifts_72 : decode cX7_lifts 72 = .ok (.iload 4, 2) := by decide +kernel
theorem dX7_lifts_74 : decode cX7_lifts 74 = .ok (.iaload, 1) := by decide +kernel
theorem dX7_lifts_75 : decode cX7_lifts 75 = .ok (.if_icmp .le 7, 3) := by decide +kernel
theorem dX7_lifts_78 : decode cX7_lifts 78 = .ok (.iconst 2, 1) := by decide +kernel
theorem dX7_lifts_79 : decode cX7_lifts 79 = .ok (.goto 4, 3) := by decide +kernel
theorem dX7_lifts_82 : decode cX7_lifts 82 = .ok (.iconst 0, 1) := by decide +kernel
theorem dX7_lifts_83 : decode cX7_lifts 83 = .ok (.iadd, 1) := by decide +kernel
theorem dX7_lifts_84 : decode cX7_lifts 84 = .ok (.istore_n 2, 1) := by decide +kernel
theorem dX7_lifts_85 : decode cX7_lifts 85 = .ok (.iinc 3 1, 3) := by decide +kernel
theorem dX7_lifts_88 : decode cX7_lifts 88 = .ok (.goto (-84), 3) := by decide +kernel
theorem dX7_lifts_91 : decode cX7_lifts 91 = .ok (.iload_n 2, 1) := by decide +kernel
theorem dX7_lifts_92 : decode cX7_lifts 92 = .ok (.ireturn, 1) := by decide +kernel
theorem dX7_timesAsked_0 : decode cX7_timesAsked 0 = .ok (.iconst 0, 1) := by decide +kernel
theorem dX7_timesAsked_1 : decode cX7_timesAsked 1 = .ok (.istore_n 2, 1) := by decide +kernel
theorem dX7_timesAsked_2 : decode cX7_timesAsked 2 = .ok (.iconst 0, 1) := by decide +kernel
theorem dX7_timesAsked_3 : decode cX7_timesAsked 3 = .ok (.istore_n 3, 1) := by decide +kernel
theorem dX7_timesAsked_4 : decode cX7_timesAsked 4 = .ok (.iload_n 3, 1) := by decide +kernel
theorem dX7_timesAsked_5 : decode cX7_timesAsked 5 = .ok (.aload_n 0, 1) := by decide +kernel
theorem dX7_timesAsked_6 : decode cX7_timesAsked 6 = .ok (.getfield 30, 3) := by decide +kernel
theorem dX7_timesAsked_9 : decode cX7_timesAsked 9 = .ok (.if_icmp .ge 27, 3) := by decide +kernel
theorem dX7_timesAsked_12 : decode cX7_timesAsked 12 = .ok (.iload_n 2, 1) := by decide +kernel
theorem dX7_timesAsked_13 : decode cX7_timesAsked 13 = .ok (.aload_n 0, 1) := by decide +kernel
theorem dX7_timesAsked_14 : decode cX7_timesAsked 14 = .ok (.getfield 21, 3) := by decide +kernel
theorem dX7_timesAsked_17 : decode cX7_timesAsked 17 = .ok (.iload_n 3, 1) := by decide +kernel
theorem dX7_timesAsked_18 : decode cX7_timesAsked 18 = .ok (.iaload, 1) := by decide +kernel
theorem dX7_timesAsked_19 : decode cX7_timesAsked 19 = .ok (.iload_n 1, 1) := by decide +kernel
theorem dX7_timesAsked_20 : decode cX7_timesAsked 20 = .ok (.if_icmp .ne 7, 3) := by decide +kernel
theorem dX7_timesAsked_23 : decode cX7_timesAsked 23 = .ok (.iconst 1, 1) := by decide +kernel
theorem dX7_timesAsked_24 : decode cX7_timesAsked 24 = .ok (.goto 4, 3) := by decide +kernel
theorem dX7_timesAsked_27 : decode cX7_timesAsked 27 = .ok (.iconst 0, 1) := by decide +kernel
theorem dX7_timesAsked_28 : decode cX7_timesAsked 28 = .ok (.iadd, 1) := by decide +kernel
theorem dX7_timesAsked_29 : decode cX7_timesAsked 29 = .ok (.istore_n 2, 1) := by decide +kernel
theorem dX7_timesAsked_30 : decode cX7_timesAsked 30 = .ok (.iinc 3 1, 3) := by decide +kernel
theorem dX7_timesAsked_33 : decode cX7_timesAsked 33 = .ok (.goto (-29), 3) := by decide +kernel
theorem dX7_timesAsked_36 : decode cX7_timesAsked 36 = .ok (.iload_n 2, 1) := by decide +kernel
theorem dX7_timesAsked_37 : decode cX7_timesAsked 37 = .ok (.ireturn, 1) := by decide +kernel
theorem dX7_copy_0 : decode cX7_copy 0 = .ok (.aload_n 1, 1) := by decide +kernel
theorem dX7_copy_1 : decode cX7_copy 1 = .ok (.getfield 9, 3) := by decide +kernel
theorem dX7_copy_4 : decode cX7_copy 4 = .ok (.iconst 0, 1) := by decide +kernel
theorem dX7_copy_5 : decode cX7_copy 5 = .ok (.aload_n 0, 1) := by decide +kernel
theorem dX7_copy_6 : decode cX7_copy 6 = .ok (.getfield 9, 3) := by decide +kernel
theorem dX7_copy_9 : decode cX7_copy 9 = .ok (.iconst 0, 1) := by decide +kernel
theorem dX7_copy_10 : decode cX7_copy 10 = .ok (.bipush 12, 2) := by decide +kernel
theorem dX7_copy_12 : decode cX7_copy 12 = .ok (.invokestatic 34, 3) := by decide +kernel
theorem dX7_copy_15 : decode cX7_copy 15 = .ok (.aload_n 1, 1) := by decide +kernel
theorem dX7_copy_16 : decode cX7_copy 16 = .ok (.getfield 15, 3) := by decide +kernel
theorem dX7_copy_19 : decode cX7_copy 19 = .ok (.iconst 0, 1) := by decide +kernel
theorem dX7_copy_20 : decode cX7_copy 20 = .ok (.aload_n 0, 1) := by decide +kernel
theorem dX7_copy_21 : decode cX7_copy 21 = .ok (.getfield 15, 3) := by decide +kernel
theorem dX7_copy_24 : decode cX7_copy 24 = .ok (.iconst 0, 1) := by decide +kernel
theorem dX7_copy_25 : decode cX7_copy 25 = .ok (.bipush 12, 2) := by decide +kernel
theorem dX7_copy_27 : decode cX7_copy 27 = .ok (.invokestatic 34, 3) := by decide +kernel
theorem dX7_copy_30 : decode cX7_copy 30 = .ok (.aload_n 1, 1) := by decide +kernel
theorem dX7_copy_31 : decode cX7_copy 31 = .ok (.getfield 18, 3) := by decide +kernel
theorem dX7_copy_34 : decode cX7_copy 34 = .ok (.iconst 0, 1) := by decide +kernel
theorem dX7_copy_35 : decode cX7_copy 35 = .ok (.aload_n 0, 1) := by decide +kernel
theorem dX7_copy_36 : decode cX7_copy 36 = .ok (.getfield 18, 3) := by decide +kernel
theorem dX7_copy_39 : decode cX7_copy 39 = .ok (.iconst 0, 1) := by decide +kernel
theorem dX7_copy_40 : decode cX7_copy 40 = .ok (.bipush 12, 2) := by decide +kernel
theorem dX7_copy_42 : decode cX7_copy 42 = .ok (.invokestatic 34, 3) := by decide +kernel
theorem dX7_copy_45 : decode cX7_copy 45 = .ok (.aload_n 1, 1) := by decide +kernel
theorem dX7_copy_46 : decode cX7_copy 46 = .ok (.getfield 21, 3) := by decide +kernel
theorem dX7_copy_49 : decode cX7_copy 49 = .ok (.iconst 0, 1) := by decide +kernel
theorem dX7_copy_50 : decode cX7_copy 50 = .ok (.aload_n 0, 1) := by decide +kernel
theorem dX7_copy_51 : decode cX7_copy 51 = .ok (.getfield 21, 3) := by decide +kernel
theorem dX7_copy_54 : decode cX7_copy 54 = .ok (.iconst 0, 1) := by decide +kernel
theorem dX7_copy_55 : decode cX7_copy 55 = .ok (.bipush 30, 2) := by decide +kernel
theorem dX7_copy_57 : decode cX7_copy 57 = .ok (.invokestatic 34, 3) := by decide +kernel
theorem dX7_copy_60 : decode cX7_copy 60 = .ok (.aload_n 0, 1) := by decide +kernel
theorem dX7_copy_61 : decode cX7_copy 61 = .ok (.aload_n 1, 1) := by decide +kernel
theorem dX7_copy_62 : decode cX7_copy 62 = .ok (.getfield 30, 3) := by decide +kernel
theorem dX7_copy_65 : decode cX7_copy 65 = .ok (.putfield 30, 3) := by decide +kernel
theorem dX7_copy_68 : decode cX7_copy 68 = .ok (.aload_n 0, 1) := by decide +kernel
theorem dX7_copy_69 : decode cX7_copy 69 = .ok (.aload_n 1, 1) := by decide +kernel
theorem dX7_copy_70 : decode cX7_copy 70 = .ok (.getfield 40, 3) := by decide +kernel
theorem dX7_copy_73 : decode cX7_copy 73 = .ok (.putfield 40, 3) := by decide +kernel
theorem dX7_copy_76 : decode cX7_copy 76 = .ok (.return_, 1) := by decide +kernel
set_option maxHeartbeats 4000000 in
set_option maxRecDepth 100000 in
theorem c_X7_sinkAbove (l : Launch) (D : DG) (cyC cyI cyJ cyZ cyO : ClassId) (n0 : Nat) (n1 : Nat) (n2 : Nat) (n3 : Nat) (n4 : Nat) (p0 : Int32) (n_askings : Int32) (n_cost : Int32) (n_laid : Int32) (n_shelf : Nat → Int32) (n_stack : Nat → Int32) (n_level : Nat → Int32) (h_n_askings : 0 ≤ (n_askings).toInt ∧ (n_askings).toInt ≤ 30) (h_n_laid : 0 ≤ (n_laid).toInt ∧ (n_laid).toInt ≤ 1) (h_p0 : 0 ≤ (p0).toInt ∧ (p0).toInt ≤ 11) (h_n_shelf : Iv 12 (-1) (3) n_shelf) (h_n_stack : Iv 12 (0) (7) n_stack) (h_n_level : Iv 12 (0) (11) n_level) : KK l D (TY cyC cyI cyJ cyZ cyO) yX7_sinkAbove cX7_sinkAbove 3 none ({ frames := 1, cells := 0, slots := 0, locals := 23 } : Room) 0 0 [.ref n0, .int p0] [(n0, .inr (7, [.ref n1, .ref n2, .ref n3, .ref n4, .int n_askings, .int n_cost, .int n_laid])), (n1, .inl (cyI, 12, .inl n_shelf)), (n2, .inl (cyI, 12, .inl n_stack)), (n3, .inl (cyI, 12, .inl n_level))] (fun u => none) (fun u => (Iv 12 (0) (11) (u.2.2.1 0)) ∧ (∀ j : Nat, j < 12 → ((u.2.2.1 0) j).toInt = (snk n_shelf n_stack n_level (p0).toInt.toNat) j)) (fun u => [(n0, .inr (7, [.ref n1, .ref n2, .ref n3, .ref n4, .int n_askings, .int n_cost, .int n_laid])), (n1, .inl (cyI, 12, .inl n_shelf)), (n2, .inl (cyI, 12, .inl n_stack)), (n3, .inl (cyI, 12, .inl (u.2.2.1 0)))]) := by
  refine KK.of (lv0 := [(0, .ref n0), (1, .int p0)]) (by decide) rfl (Nat.le_of_ble_eq_true rfl) ?_
  intro p e s m args below meth c A C hr hk hin
  refine j_iconst (pc := 0) (v := 0) C dX7_sinkAbove_0 (by decide) ?_
  refine j_istore_n (pc := 1) (lv' := [(2, .int 0), (0, .ref n0), (1, .int p0)]) C dX7_sinkAbove_1 rfl (by decide) rfl ?_
  have loop_1 : ∀ (k_1 : Nat) (x1_2 : Int32) (g1_n3 : Nat → Int32), (0 ≤ (x1_2).toInt ∧ (x1_2).toInt ≤ 12) → (Iv 12 (0) (11) g1_n3) → (PWI (snk n_shelf n_stack n_level (p0).toInt.toNat) n_level g1_n3 x1_2.toInt) → (12 - x1_2.toInt).toNat < k_1 → J p l e ({ frames := 1, cells := 0, slots := 0, locals := 23 } : Room) s m args below meth c D A 3 0 0 (QX below D (TY cyC cyI cyJ cyZ cyO) A (fun u => none) (fun u => (Iv 12 (0) (11) (u.2.2.1 0)) ∧ (∀ j : Nat, j < 12 → ((u.2.2.1 0) j).toInt = (snk n_shelf n_stack n_level (p0).toInt.toNat) j)) (fun u => [(n0, .inr (7, [.ref n1, .ref n2, .ref n3, .ref n4, .int n_askings, .int n_cost, .int n_laid])), (n1, .inl (cyI, 12, .inl n_shelf)), (n2, .inl (cyI, 12, .inl n_stack)), (n3, .inl (cyI, 12, .inl (u.2.2.1 0)))]) args s 0 0) [(n0, .inr (7, [.ref n1, .ref n2, .ref n3, .ref n4, .int n_askings, .int n_cost, .int n_laid])), (n1, .inl (cyI, 12, .inl n_shelf)), (n2, .inl (cyI, 12, .inl n_stack)), (n3, .inl (cyI, 12, .inl g1_n3))] 2 [(2, .int x1_2), (0, .ref n0), (1, .int p0)] [] := by
    intro k_1
    induction k_1 with
    | zero =>
      intro x1_2 g1_n3 hi_1_0 hi_1_1 hq_1_0 hm_1
      exact absurd hm_1 (Nat.not_lt_zero _)
    | succ k_1 ih_1 =>
      intro x1_2 g1_n3 hi_1_0 hi_1_1 hq_1_0 hm_1
      refine j_iload_n (pc := 2) C dX7_sinkAbove_2 rfl 0 rfl ?_
      refine j_bipush (pc := 3) (v := 12) C dX7_sinkAbove_3 (by decide) ?_
      refine j_icmp_ge (pc := 5) (tgt := 59) C dX7_sinkAbove_5 (by decide) (fun c_2 => ?_) (fun c_2 => ?_)
      · skip
        have el_12 : (12 : Int32).toInt = 12 := rfl
        rw [i_le] at c_2
        have k0c_2 : x1_2.toInt = 12 := by omega
        exact j_vret (pc := 59) C hr hk (fun i => [].getD i 0, fun i => [].getD i 0, fun i => [g1_n3].getD i (fun _ => 0), fun i => [].getD i (fun _ => 0)) rfl (show (Iv 12 (0) (11) g1_n3) ∧ (∀ j : Nat, j < 12 → (g1_n3 j).toInt = (snk n_shelf n_stack n_level (p0).toInt.toNat) j) from ⟨hi_1_1, (PWI.fin hq_1_0 (by omega))⟩) [0, 1, 2, 3] (by decide) rfl (by decide) (by decide) dX7_sinkAbove_59
      · skip
        have el_12 : (12 : Int32).toInt = 12 := rfl
        rw [i_le] at c_2
        refine j_aload_n (pc := 8) C dX7_sinkAbove_8 rfl 1 rfl ?_
        refine j_iload_n (pc := 9) C dX7_sinkAbove_9 rfl 0 rfl ?_
        refine j_aload_n (pc := 10) C dX7_sinkAbove_10 rfl 1 rfl ?_
        refine j_get (pc := 11) (ci := 7) (v := .ref n1) C inw_7 0 rfl rfl 0 (by decide) wd_2 rfl rfl dX7_sinkAbove_11 ?_
        refine j_iload_n (pc := 14) C dX7_sinkAbove_14 rfl 2 rfl ?_
        obtain ⟨v_3, ev_3⟩ : ∃ z, n_shelf (p0).toInt.toNat = z := ⟨_, rfl⟩
        have env_3 : (n_shelf (p0).toInt.toNat).toInt = v_3.toInt := by rw [ev_3]
        have hv_3 := h_n_shelf (p0).toInt.toNat (i_lt_n h_p0.1 (Int.lt_of_le_of_lt h_p0.2 (by decide))); rw [ev_3] at hv_3
        refine j_iald (pc := 15) (v := v_3) (k := (p0).toInt.toNat) C 1 1 rfl rfl (i_nn h_p0.1) rfl (i_lt_n h_p0.1 (Int.lt_of_le_of_lt h_p0.2 (by decide))) ev_3 dX7_sinkAbove_15 ?_
        refine j_aload_n (pc := 16) C dX7_sinkAbove_16 rfl 1 rfl ?_
        refine j_get (pc := 17) (ci := 7) (v := .ref n2) C inw_7 0 rfl rfl 1 (by decide) wd_3 rfl rfl dX7_sinkAbove_17 ?_
        refine j_iload_n (pc := 20) C dX7_sinkAbove_20 rfl 2 rfl ?_
        obtain ⟨v_4, ev_4⟩ : ∃ z, n_stack (p0).toInt.toNat = z := ⟨_, rfl⟩
        have env_4 : (n_stack (p0).toInt.toNat).toInt = v_4.toInt := by rw [ev_4]
        have hv_4 := h_n_stack (p0).toInt.toNat (i_lt_n h_p0.1 (Int.lt_of_le_of_lt h_p0.2 (by decide))); rw [ev_4] at hv_4
        refine j_iald (pc := 21) (v := v_4) (k := (p0).toInt.toNat) C 2 1 rfl rfl (i_nn h_p0.1) rfl (i_lt_n h_p0.1 (Int.lt_of_le_of_lt h_p0.2 (by decide))) ev_4 dX7_sinkAbove_21 ?_
        refine j_callV (pc := 22) (As := [.int x1_2, .int v_3, .int v_4]) (rest := []) (wr := [(n3, .inl (cyI, 12, .inl g1_n3))]) C (c_X7_stands l D cyC cyI cyJ cyZ cyO n0 n1 n2 n3 n4 x1_2 v_3 v_4 n_askings n_cost n_laid n_shelf n_stack h_n_askings h_n_laid (by omega) h_n_shelf h_n_stack) wd_8 wd_9 wd_10 wd_11 wd_12 ⟨by decide, by decide, rfl⟩ rfl ⟨rfl, rfl, by decide, by decide⟩ ⟨by decide, by decide⟩ [0, 1, 2] [3] rfl rfl ⟨by decide, by decide, by decide⟩ 0 rfl rfl rfl (Nat.le_of_ble_eq_true rfl) dX7_sinkAbove_22 (fun u_5 hw_6 => ?_)
        refine j_eq (ws2 := [(n3, .inl (cyI, 12, .inl g1_n3)), (n0, .inr (7, [.ref n1, .ref n2, .ref n3, .ref n4, .int n_askings, .int n_cost, .int n_laid])), (n1, .inl (cyI, 12, .inl n_shelf)), (n2, .inl (cyI, 12, .inl n_stack))]) (pc2 := 25) (lv2 := [(2, .int x1_2), (0, .ref n0), (1, .int p0)]) (st2 := [.int (u_5.2.1 0)]) rfl rfl rfl rfl ?_
        obtain ⟨hw_6_0, hw_6_1, hw_6_2⟩ := hw_6
        refine j_if_eq (pc := 25) (tgt := 53) C dX7_sinkAbove_25 (by decide) (fun c_7 => ?_) (fun c_7 => ?_)
        · skip
          have el_0 : (0 : Int32).toInt = 0 := rfl
          rw [i_eq] at c_7
          obtain ⟨v_8, ev_8⟩ : ∃ z : Int32, x1_2 + 1 = z := ⟨_, rfl⟩
          have el_1 : (1 : Int32).toInt = 1 := rfl
          have hv_8 : v_8.toInt = x1_2.toInt + (1 : Int32).toInt := by rw [← ev_8]; exact fb_addI (by omega) (by omega)
          refine j_iinc (pc := 53) (v := v_8) (lv' := [(2, .int v_8), (0, .ref n0), (1, .int p0)]) C dX7_sinkAbove_53 0 rfl ev_8 (by decide) rfl ?_
          refine j_goto (pc := 56) (tgt := 2) C dX7_sinkAbove_56 (by decide) ?_
          refine j_subG (ws' := [(n0, .inr (7, [.ref n1, .ref n2, .ref n3, .ref n4, .int n_askings, .int n_cost, .int n_laid])), (n1, .inl (cyI, 12, .inl n_shelf)), (n2, .inl (cyI, 12, .inl n_stack)), (n3, .inl (cyI, 12, .inl g1_n3))]) [1, 2, 3, 0] (by decide) rfl ?_
          exact j_lv [0, 1, 2] rfl (ih_1 v_8 g1_n3 (by omega) hi_1_1 (PWI.step hq_1_0 (by omega) (by omega) (fun j hj => rfl) (by have y1 := congrArg Int32.toInt (PWI.at hq_1_0 (by omega) (by omega)); have y2 := snk_low hq_1_0 (w := (p0).toInt.toNat) (by omega); rw [y1]; exact (if_neg (fun z => by rcases hw_6_1 with h | h | h; omega; exact h (z.1.trans ev_3); exact h (z.2.1.trans ev_4))).symm)) (by omega))
        · skip
          have el_0 : (0 : Int32).toInt = 0 := rfl
          rw [i_eq] at c_7
          have k0c_7 : ((u_5.2.1 0)).toInt = 1 := by omega
          refine j_aload_n (pc := 28) C dX7_sinkAbove_28 rfl 1 rfl ?_
          refine j_get (pc := 29) (ci := 7) (v := .ref n3) C inw_7 1 rfl rfl 2 (by decide) wd_21 rfl rfl dX7_sinkAbove_29 ?_
          refine j_iload_n (pc := 32) C dX7_sinkAbove_32 rfl 0 rfl ?_
          obtain ⟨v_9, ev_9⟩ : ∃ z, g1_n3 (x1_2).toInt.toNat = z := ⟨_, rfl⟩
          have env_9 : (g1_n3 (x1_2).toInt.toNat).toInt = v_9.toInt := by rw [ev_9]
          have hv_9 := hi_1_1 (x1_2).toInt.toNat (i_lt_n hi_1_0.1 (by omega)); rw [ev_9] at hv_9
          refine j_iald (pc := 33) (v := v_9) (k := (x1_2).toInt.toNat) C 0 1 rfl rfl (i_nn hi_1_0.1) rfl (i_lt_n hi_1_0.1 (by omega)) ev_9 dX7_sinkAbove_33 ?_
          refine j_aload_n (pc := 34) C dX7_sinkAbove_34 rfl 1 rfl ?_
          refine j_get (pc := 35) (ci := 7) (v := .ref n3) C inw_7 1 rfl rfl 2 (by decide) wd_21 rfl rfl dX7_sinkAbove_35 ?_
          refine j_iload_n (pc := 38) C dX7_sinkAbove_38 rfl 2 rfl ?_
          obtain ⟨v_10, ev_10⟩ : ∃ z, g1_n3 (p0).toInt.toNat = z := ⟨_, rfl⟩
          have env_10 : (g1_n3 (p0).toInt.toNat).toInt = v_10.toInt := by rw [ev_10]
          have hv_10 := hi_1_1 (p0).toInt.toNat (i_lt_n h_p0.1 (Int.lt_of_le_of_lt h_p0.2 (by decide))); rw [ev_10] at hv_10
          refine j_iald (pc := 39) (v := v_10) (k := (p0).toInt.toNat) C 0 1 rfl rfl (i_nn h_p0.1) rfl (i_lt_n h_p0.1 (Int.lt_of_le_of_lt h_p0.2 (by decide))) ev_10 dX7_sinkAbove_39 ?_
          refine j_icmp_le (pc := 40) (tgt := 53) C dX7_sinkAbove_40 (by decide) (fun c_11 => ?_) (fun c_11 => ?_)
          · skip
            rw [i_le] at c_11
            obtain ⟨v_12, ev_12⟩ : ∃ z : Int32, x1_2 + 1 = z := ⟨_, rfl⟩
            have el_1 : (1 : Int32).toInt = 1 := rfl
            have hv_12 : v_12.toInt = x1_2.toInt + (1 : Int32).toInt := by rw [← ev_12]; exact fb_addI (by omega) (by omega)
            refine j_iinc (pc := 53) (v := v_12) (lv' := [(2, .int v_12), (0, .ref n0), (1, .int p0)]) C dX7_sinkAbove_53 0 rfl ev_12 (by decide) rfl ?_
            refine j_goto (pc := 56) (tgt := 2) C dX7_sinkAbove_56 (by decide) ?_
            refine j_subG (ws' := [(n0, .inr (7, [.ref n1, .ref n2, .ref n3, .ref n4, .int n_askings, .int n_cost, .int n_laid])), (n1, .inl (cyI, 12, .inl n_shelf)), (n2, .inl (cyI, 12, .inl n_stack)), (n3, .inl (cyI, 12, .inl g1_n3))]) [1, 2, 3, 0] (by decide) rfl ?_
            exact j_lv [0, 1, 2] rfl (ih_1 v_12 g1_n3 (by omega) hi_1_1 (PWI.step hq_1_0 (by omega) (by omega) (fun j hj => rfl) (by have y1 := congrArg Int32.toInt (PWI.at hq_1_0 (by omega) (by omega)); have y2 := snk_low hq_1_0 (w := (p0).toInt.toNat) (by omega); rw [y1]; exact (if_neg (fun z => by have z3 := z.2.2; omega)).symm)) (by omega))
          · skip
            rw [i_le] at c_11
            refine j_aload_n (pc := 43) C dX7_sinkAbove_43 rfl 1 rfl ?_
            refine j_get (pc := 44) (ci := 7) (v := .ref n3) C inw_7 1 rfl rfl 2 (by decide) wd_21 rfl rfl dX7_sinkAbove_44 ?_
            refine j_iload_n (pc := 47) C dX7_sinkAbove_47 rfl 0 rfl ?_
            refine j_dup2 (pc := 48) C dX7_sinkAbove_48 rfl rfl ?_
            refine j_iald (pc := 49) (v := v_9) (k := (x1_2).toInt.toNat) C 0 1 rfl rfl (i_nn hi_1_0.1) rfl (i_lt_n hi_1_0.1 (by omega)) ev_9 dX7_sinkAbove_49 ?_
            refine j_iconst (pc := 50) (v := 1) C dX7_sinkAbove_50 (by decide) ?_
            obtain ⟨v_13, ev_13⟩ : ∃ z : Int32, v_9 - 1 = z := ⟨_, rfl⟩
            have el_1 : (1 : Int32).toInt = 1 := rfl
            have hv_13 : v_13.toInt = v_9.toInt - (1 : Int32).toInt := by rw [← ev_13]; exact fb_subI (by omega) (by omega)
            refine j_isub (pc := 51) (v := v_13) C dX7_sinkAbove_51 ev_13 ?_
            obtain ⟨f_14, ef_14⟩ : ∃ z, z = upd g1_n3 (x1_2).toInt.toNat v_13 := ⟨_, rfl⟩
            have hf_14 : Iv 12 (0) (11) f_14 := by rw [ef_14]; exact Iv.upd hi_1_1 (by omega) (by omega)
            refine j_iast (pc := 52) (k := (x1_2).toInt.toNat) (ws' := [(n3, .inl (cyI, 12, .inl f_14)), (n0, .inr (7, [.ref n1, .ref n2, .ref n3, .ref n4, .int n_askings, .int n_cost, .int n_laid])), (n1, .inl (cyI, 12, .inl n_shelf)), (n2, .inl (cyI, 12, .inl n_stack))]) C 0 1 rfl rfl (i_nn hi_1_0.1) rfl (i_lt_n hi_1_0.1 (by omega)) dX7_sinkAbove_52 (by rw [ef_14]; rfl) ?_
            obtain ⟨v_15, ev_15⟩ : ∃ z : Int32, x1_2 + 1 = z := ⟨_, rfl⟩
            have el_1 : (1 : Int32).toInt = 1 := rfl
            have hv_15 : v_15.toInt = x1_2.toInt + (1 : Int32).toInt := by rw [← ev_15]; exact fb_addI (by omega) (by omega)
            refine j_iinc (pc := 53) (v := v_15) (lv' := [(2, .int v_15), (0, .ref n0), (1, .int p0)]) C dX7_sinkAbove_53 0 rfl ev_15 (by decide) rfl ?_
            refine j_goto (pc := 56) (tgt := 2) C dX7_sinkAbove_56 (by decide) ?_
            refine j_subG (ws' := [(n0, .inr (7, [.ref n1, .ref n2, .ref n3, .ref n4, .int n_askings, .int n_cost, .int n_laid])), (n1, .inl (cyI, 12, .inl n_shelf)), (n2, .inl (cyI, 12, .inl n_stack)), (n3, .inl (cyI, 12, .inl f_14))]) [1, 2, 3, 0] (by decide) rfl ?_
            exact j_lv [0, 1, 2] rfl (ih_1 v_15 f_14 (by omega) hf_14 (PWI.step hq_1_0 (by omega) (by omega) (fun j hj => by rw [ef_14]; exact pk_un hj) (by have y1 := congrArg Int32.toInt (PWI.at hq_1_0 (by omega) (by omega)); have y2 := snk_low hq_1_0 (w := (p0).toInt.toNat) (by omega); have y3 : n_shelf (x1_2).toInt.toNat = v_3 ∧ n_stack (x1_2).toInt.toNat = v_4 := (by rcases hw_6_2 with h | h; (exfalso; omega); exact h); rw [ef_14, pk_us]; rw [show (snk n_shelf n_stack n_level (p0).toInt.toNat) (x1_2).toInt.toNat = (n_level (x1_2).toInt.toNat).toInt - 1 from if_pos ⟨y3.1.trans ev_3.symm, y3.2.trans ev_4.symm, by omega⟩]; omega)) (by omega))
  have el_0 : (0 : Int32).toInt = 0 := rfl
  exact j_lv [0, 1, 2] rfl (loop_1 4096 0 n_level (by decide) h_n_level (PWI.zero rfl) (by omega))
set_option maxHeartbeats 4000000 in
set_option maxRecDepth 100000 in
theorem c_X7_closeGap (l : Launch) (D : DG) (cyC cyI cyJ cyZ cyO : ClassId) (n0 : Nat) (n1 : Nat) (n2 : Nat) (n3 : Nat) (n4 : Nat) (p0 : Int32) (p1 : Int32) (n_askings : Int32) (n_cost : Int32) (n_laid : Int32) (n_shelf : Nat → Int32) (n_stack : Nat → Int32) (h_n_askings : 0 ≤ (n_askings).toInt ∧ (n_askings).toInt ≤ 30) (h_n_laid : 0 ≤ (n_laid).toInt ∧ (n_laid).toInt ≤ 1) (h_p1 : 0 ≤ (p1).toInt ∧ (p1).toInt ≤ 7) (h_n_shelf : Iv 12 (-1) (3) n_shelf) (h_n_stack : Iv 12 (0) (7) n_stack) : KK l D (TY cyC cyI cyJ cyZ cyO) yX7_closeGap cX7_closeGap 4 none ({ frames := 0, cells := 0, slots := 0, locals := 0 } : Room) 0 0 [.ref n0, .int p0, .int p1] [(n0, .inr (7, [.ref n1, .ref n2, .ref n3, .ref n4, .int n_askings, .int n_cost, .int n_laid])), (n1, .inl (cyI, 12, .inl n_shelf)), (n2, .inl (cyI, 12, .inl n_stack))] (fun u => none) (fun u => (Iv 12 (0) (7) (u.2.2.1 0)) ∧ (∀ j : Nat, j < 12 → ((u.2.2.1 0) j).toInt = (gpf n_shelf n_stack p0 p1) j)) (fun u => [(n0, .inr (7, [.ref n1, .ref n2, .ref n3, .ref n4, .int n_askings, .int n_cost, .int n_laid])), (n1, .inl (cyI, 12, .inl n_shelf)), (n2, .inl (cyI, 12, .inl (u.2.2.1 0)))]) := by
  refine KK.of (lv0 := [(0, .ref n0), (1, .int p0), (2, .int p1)]) (by decide) rfl (Nat.le_of_ble_eq_true rfl) ?_
  intro p e s m args below meth c A C hr hk hin
  refine j_iconst (pc := 0) (v := 0) C dX7_closeGap_0 (by decide) ?_
  refine j_istore_n (pc := 1) (lv' := [(3, .int 0), (0, .ref n0), (1, .int p0), (2, .int p1)]) C dX7_closeGap_1 rfl (by decide) rfl ?_
  have loop_1 : ∀ (k_1 : Nat) (x1_3 : Int32) (g1_n2 : Nat → Int32), (0 ≤ (x1_3).toInt ∧ (x1_3).toInt ≤ 12) → (Iv 12 (0) (7) g1_n2) → (PWI (gpf n_shelf n_stack p0 p1) n_stack g1_n2 x1_3.toInt) → (12 - x1_3.toInt).toNat < k_1 → J p l e ({ frames := 0, cells := 0, slots := 0, locals := 0 } : Room) s m args below meth c D A 4 0 0 (QX below D (TY cyC cyI cyJ cyZ cyO) A (fun u => none) (fun u => (Iv 12 (0) (7) (u.2.2.1 0)) ∧ (∀ j : Nat, j < 12 → ((u.2.2.1 0) j).toInt = (gpf n_shelf n_stack p0 p1) j)) (fun u => [(n0, .inr (7, [.ref n1, .ref n2, .ref n3, .ref n4, .int n_askings, .int n_cost, .int n_laid])), (n1, .inl (cyI, 12, .inl n_shelf)), (n2, .inl (cyI, 12, .inl (u.2.2.1 0)))]) args s 0 0) [(n0, .inr (7, [.ref n1, .ref n2, .ref n3, .ref n4, .int n_askings, .int n_cost, .int n_laid])), (n1, .inl (cyI, 12, .inl n_shelf)), (n2, .inl (cyI, 12, .inl g1_n2))] 2 [(3, .int x1_3), (0, .ref n0), (1, .int p0), (2, .int p1)] [] := by
    intro k_1
    induction k_1 with
    | zero =>
      intro x1_3 g1_n2 hi_1_0 hi_1_1 hq_1_0 hm_1
      exact absurd hm_1 (Nat.not_lt_zero _)
    | succ k_1 ih_1 =>
      intro x1_3 g1_n2 hi_1_0 hi_1_1 hq_1_0 hm_1
      refine j_iload_n (pc := 2) C dX7_closeGap_2 rfl 0 rfl ?_
      refine j_bipush (pc := 3) (v := 12) C dX7_closeGap_3 (by decide) ?_
      refine j_icmp_ge (pc := 5) (tgt := 44) C dX7_closeGap_5 (by decide) (fun c_2 => ?_) (fun c_2 => ?_)
      · skip
        have el_12 : (12 : Int32).toInt = 12 := rfl
        rw [i_le] at c_2
        have k0c_2 : x1_3.toInt = 12 := by omega
        exact j_vret (pc := 44) C hr hk (fun i => [].getD i 0, fun i => [].getD i 0, fun i => [g1_n2].getD i (fun _ => 0), fun i => [].getD i (fun _ => 0)) rfl (show (Iv 12 (0) (7) g1_n2) ∧ (∀ j : Nat, j < 12 → (g1_n2 j).toInt = (gpf n_shelf n_stack p0 p1) j) from ⟨hi_1_1, (PWI.fin hq_1_0 (by omega))⟩) [0, 1, 2] (by decide) rfl (by decide) (by decide) dX7_closeGap_44
      · skip
        have el_12 : (12 : Int32).toInt = 12 := rfl
        rw [i_le] at c_2
        refine j_aload_n (pc := 8) C dX7_closeGap_8 rfl 1 rfl ?_
        refine j_get (pc := 9) (ci := 7) (v := .ref n1) C inw_7 0 rfl rfl 0 (by decide) wd_2 rfl rfl dX7_closeGap_9 ?_
        refine j_iload_n (pc := 12) C dX7_closeGap_12 rfl 0 rfl ?_
        obtain ⟨v_3, ev_3⟩ : ∃ z, n_shelf (x1_3).toInt.toNat = z := ⟨_, rfl⟩
        have env_3 : (n_shelf (x1_3).toInt.toNat).toInt = v_3.toInt := by rw [ev_3]
        have hv_3 := h_n_shelf (x1_3).toInt.toNat (i_lt_n hi_1_0.1 (by omega)); rw [ev_3] at hv_3
        refine j_iald (pc := 13) (v := v_3) (k := (x1_3).toInt.toNat) C 1 1 rfl rfl (i_nn hi_1_0.1) rfl (i_lt_n hi_1_0.1 (by omega)) ev_3 dX7_closeGap_13 ?_
        refine j_iload_n (pc := 14) C dX7_closeGap_14 rfl 2 rfl ?_
        refine j_icmp_ne (pc := 15) (tgt := 38) C dX7_closeGap_15 (by decide) (fun c_4 => ?_) (fun c_4 => ?_)
        · skip
          rw [i_eq] at c_4
          obtain ⟨v_5, ev_5⟩ : ∃ z : Int32, x1_3 + 1 = z := ⟨_, rfl⟩
          have el_1 : (1 : Int32).toInt = 1 := rfl
          have hv_5 : v_5.toInt = x1_3.toInt + (1 : Int32).toInt := by rw [← ev_5]; exact fb_addI (by omega) (by omega)
          refine j_iinc (pc := 38) (v := v_5) (lv' := [(3, .int v_5), (0, .ref n0), (1, .int p0), (2, .int p1)]) C dX7_closeGap_38 0 rfl ev_5 (by decide) rfl ?_
          refine j_goto (pc := 41) (tgt := 2) C dX7_closeGap_41 (by decide) ?_
          exact j_lv [0, 1, 2, 3] rfl (ih_1 v_5 g1_n2 (by omega) hi_1_1 (PWI.step hq_1_0 (by omega) (by omega) (fun j hj => rfl) (by have y1 := congrArg Int32.toInt (PWI.at hq_1_0 (by omega) (by omega)); rw [y1]; exact (if_neg (fun z => by have z1 := congrArg Int32.toInt z.1; have z2 := z.2; omega)).symm)) (by omega))
        · skip
          rw [i_eq] at c_4
          refine j_aload_n (pc := 18) C dX7_closeGap_18 rfl 1 rfl ?_
          refine j_get (pc := 19) (ci := 7) (v := .ref n2) C inw_7 0 rfl rfl 1 (by decide) wd_3 rfl rfl dX7_closeGap_19 ?_
          refine j_iload_n (pc := 22) C dX7_closeGap_22 rfl 0 rfl ?_
          obtain ⟨v_6, ev_6⟩ : ∃ z, g1_n2 (x1_3).toInt.toNat = z := ⟨_, rfl⟩
          have env_6 : (g1_n2 (x1_3).toInt.toNat).toInt = v_6.toInt := by rw [ev_6]
          have hv_6 := hi_1_1 (x1_3).toInt.toNat (i_lt_n hi_1_0.1 (by omega)); rw [ev_6] at hv_6
          refine j_iald (pc := 23) (v := v_6) (k := (x1_3).toInt.toNat) C 2 1 rfl rfl (i_nn hi_1_0.1) rfl (i_lt_n hi_1_0.1 (by omega)) ev_6 dX7_closeGap_23 ?_
          refine j_iload_n (pc := 24) C dX7_closeGap_24 rfl 3 rfl ?_
          refine j_icmp_le (pc := 25) (tgt := 38) C dX7_closeGap_25 (by decide) (fun c_7 => ?_) (fun c_7 => ?_)
          · skip
            rw [i_le] at c_7
            obtain ⟨v_8, ev_8⟩ : ∃ z : Int32, x1_3 + 1 = z := ⟨_, rfl⟩
            have el_1 : (1 : Int32).toInt = 1 := rfl
            have hv_8 : v_8.toInt = x1_3.toInt + (1 : Int32).toInt := by rw [← ev_8]; exact fb_addI (by omega) (by omega)
            refine j_iinc (pc := 38) (v := v_8) (lv' := [(3, .int v_8), (0, .ref n0), (1, .int p0), (2, .int p1)]) C dX7_closeGap_38 0 rfl ev_8 (by decide) rfl ?_
            refine j_goto (pc := 41) (tgt := 2) C dX7_closeGap_41 (by decide) ?_
            exact j_lv [0, 1, 2, 3] rfl (ih_1 v_8 g1_n2 (by omega) hi_1_1 (PWI.step hq_1_0 (by omega) (by omega) (fun j hj => rfl) (by have y1 := congrArg Int32.toInt (PWI.at hq_1_0 (by omega) (by omega)); rw [y1]; exact (if_neg (fun z => by have z1 := congrArg Int32.toInt z.1; have z2 := z.2; omega)).symm)) (by omega))
          · skip
            rw [i_le] at c_7
            refine j_aload_n (pc := 28) C dX7_closeGap_28 rfl 1 rfl ?_
            refine j_get (pc := 29) (ci := 7) (v := .ref n2) C inw_7 0 rfl rfl 1 (by decide) wd_3 rfl rfl dX7_closeGap_29 ?_
            refine j_iload_n (pc := 32) C dX7_closeGap_32 rfl 0 rfl ?_
            refine j_dup2 (pc := 33) C dX7_closeGap_33 rfl rfl ?_
            refine j_iald (pc := 34) (v := v_6) (k := (x1_3).toInt.toNat) C 2 1 rfl rfl (i_nn hi_1_0.1) rfl (i_lt_n hi_1_0.1 (by omega)) ev_6 dX7_closeGap_34 ?_
            refine j_iconst (pc := 35) (v := 1) C dX7_closeGap_35 (by decide) ?_
            obtain ⟨v_9, ev_9⟩ : ∃ z : Int32, v_6 - 1 = z := ⟨_, rfl⟩
            have el_1 : (1 : Int32).toInt = 1 := rfl
            have hv_9 : v_9.toInt = v_6.toInt - (1 : Int32).toInt := by rw [← ev_9]; exact fb_subI (by omega) (by omega)
            refine j_isub (pc := 36) (v := v_9) C dX7_closeGap_36 ev_9 ?_
            obtain ⟨f_10, ef_10⟩ : ∃ z, z = upd g1_n2 (x1_3).toInt.toNat v_9 := ⟨_, rfl⟩
            have hf_10 : Iv 12 (0) (7) f_10 := by rw [ef_10]; exact Iv.upd hi_1_1 (by omega) (by omega)
            refine j_iast (pc := 37) (k := (x1_3).toInt.toNat) (ws' := [(n0, .inr (7, [.ref n1, .ref n2, .ref n3, .ref n4, .int n_askings, .int n_cost, .int n_laid])), (n1, .inl (cyI, 12, .inl n_shelf)), (n2, .inl (cyI, 12, .inl f_10))]) C 2 1 rfl rfl (i_nn hi_1_0.1) rfl (i_lt_n hi_1_0.1 (by omega)) dX7_closeGap_37 (by rw [ef_10]; rfl) ?_
            obtain ⟨v_11, ev_11⟩ : ∃ z : Int32, x1_3 + 1 = z := ⟨_, rfl⟩
            have el_1 : (1 : Int32).toInt = 1 := rfl
            have hv_11 : v_11.toInt = x1_3.toInt + (1 : Int32).toInt := by rw [← ev_11]; exact fb_addI (by omega) (by omega)
            refine j_iinc (pc := 38) (v := v_11) (lv' := [(3, .int v_11), (0, .ref n0), (1, .int p0), (2, .int p1)]) C dX7_closeGap_38 0 rfl ev_11 (by decide) rfl ?_
            refine j_goto (pc := 41) (tgt := 2) C dX7_closeGap_41 (by decide) ?_
            exact j_lv [0, 1, 2, 3] rfl (ih_1 v_11 f_10 (by omega) hf_10 (PWI.step hq_1_0 (by omega) (by omega) (fun j hj => by rw [ef_10]; exact pk_un hj) (by have y1 := congrArg Int32.toInt (PWI.at hq_1_0 (by omega) (by omega)); rw [ef_10, pk_us]; rw [show (gpf n_shelf n_stack p0 p1) (x1_3).toInt.toNat = (n_stack (x1_3).toInt.toNat).toInt - 1 from if_pos ⟨ev_3.trans ((i_eq _ _).mpr (by omega)), by omega⟩]; omega)) (by omega))
  have el_0 : (0 : Int32).toInt = 0 := rfl
  exact j_lv [0, 1, 2, 3] rfl (loop_1 4096 0 n_stack (by decide) h_n_stack (PWI.zero rfl) (by omega))
set_option maxHeartbeats 4000000 in
set_option maxRecDepth 100000 in
theorem c_X7_lifts (l : Launch) (D : DG) (cyC cyI cyJ cyZ cyO : ClassId) (n0 : Nat) (n1 : Nat) (n2 : Nat) (n3 : Nat) (n4 : Nat) (p0 : Int32) (n_askings : Int32) (n_cost : Int32) (n_laid : Int32) (n_shelf : Nat → Int32) (n_stack : Nat → Int32) (n_level : Nat → Int32) (n_asking : Nat → Int32) (h_n_askings : 0 ≤ (n_askings).toInt ∧ (n_askings).toInt ≤ 30) (h_n_laid : 0 ≤ (n_laid).toInt ∧ (n_laid).toInt ≤ 1) (h_p0 : 0 ≤ (p0).toInt ∧ (p0).toInt ≤ 11) (h_n_shelf : Iv 12 (-1) (3) n_shelf) (h_n_stack : Iv 12 (0) (7) n_stack) (h_n_level : Iv 12 (0) (11) n_level) (h_n_asking : Iv 30 (0) (11) n_asking) : KK l D (TY cyC cyI cyJ cyZ cyO) yX7_lifts cX7_lifts 5 (some .int) ({ frames := 1, cells := 0, slots := 0, locals := 23 } : Room) 0 0 [.ref n0, .int p0] [(n0, .inr (7, [.ref n1, .ref n2, .ref n3, .ref n4, .int n_askings, .int n_cost, .int n_laid])), (n1, .inl (cyI, 12, .inl n_shelf)), (n2, .inl (cyI, 12, .inl n_stack)), (n3, .inl (cyI, 12, .inl n_level)), (n4, .inl (cyI, 30, .inl n_asking))] (fun u => some (.int (u.2.1 0))) (fun u => True) (fun u => [(n0, .inr (7, [.ref n1, .ref n2, .ref n3, .ref n4, .int n_askings, .int n_cost, .int n_laid])), (n1, .inl (cyI, 12, .inl n_shelf)), (n2, .inl (cyI, 12, .inl n_stack)), (n3, .inl (cyI, 12, .inl n_level)), (n4, .inl (cyI, 30, .inl n_asking))]) := by
  refine KK.of (lv0 := [(0, .ref n0), (1, .int p0)]) (by decide) rfl (Nat.le_of_ble_eq_true rfl) ?_
  intro p e s m args below meth c A C hr hk hin
  refine j_iconst (pc := 0) (v := 0) C dX7_lifts_0 (by decide) ?_
  refine j_istore_n (pc := 1) (lv' := [(2, .int 0), (0, .ref n0), (1, .int p0)]) C dX7_lifts_1 rfl (by decide) rfl ?_
  refine j_iconst (pc := 2) (v := 0) C dX7_lifts_2 (by decide) ?_
  refine j_istore_n (pc := 3) (lv' := [(3, .int 0), (2, .int 0), (0, .ref n0), (1, .int p0)]) C dX7_lifts_3 rfl (by decide) rfl ?_
  have loop_1 : ∀ (k_1 : Nat) (x1_3 : Int32) (x1_2 : Int32), (0 ≤ (x1_3).toInt ∧ (x1_3).toInt ≤ 30) → (30 - x1_3.toInt).toNat < k_1 → J p l e ({ frames := 1, cells := 0, slots := 0, locals := 23 } : Room) s m args below meth c D A 5 0 0 (QX below D (TY cyC cyI cyJ cyZ cyO) A (fun u => some (.int (u.2.1 0))) (fun u => True) (fun u => [(n0, .inr (7, [.ref n1, .ref n2, .ref n3, .ref n4, .int n_askings, .int n_cost, .int n_laid])), (n1, .inl (cyI, 12, .inl n_shelf)), (n2, .inl (cyI, 12, .inl n_stack)), (n3, .inl (cyI, 12, .inl n_level)), (n4, .inl (cyI, 30, .inl n_asking))]) args s 0 0) [(n0, .inr (7, [.ref n1, .ref n2, .ref n3, .ref n4, .int n_askings, .int n_cost, .int n_laid])), (n1, .inl (cyI, 12, .inl n_shelf)), (n2, .inl (cyI, 12, .inl n_stack)), (n3, .inl (cyI, 12, .inl n_level)), (n4, .inl (cyI, 30, .inl n_asking))] 4 [(3, .int x1_3), (2, .int x1_2), (0, .ref n0), (1, .int p0)] [] := by
    intro k_1
    induction k_1 with
    | zero =>
      intro x1_3 x1_2 hi_1_0 hm_1
      exact absurd hm_1 (Nat.not_lt_zero _)
    | succ k_1 ih_1 =>
      intro x1_3 x1_2 hi_1_0 hm_1
      refine j_iload_n (pc := 4) C dX7_lifts_4 rfl 0 rfl ?_
      refine j_aload_n (pc := 5) C dX7_lifts_5 rfl 2 rfl ?_
      refine j_get (pc := 6) (ci := 7) (v := .int n_askings) C inw_7 0 rfl rfl 4 (by decide) wd_22 rfl rfl dX7_lifts_6 ?_
      refine j_icmp_ge (pc := 9) (tgt := 91) C dX7_lifts_9 (by decide) (fun c_2 => ?_) (fun c_2 => ?_)
      · skip
        rw [i_le] at c_2
        refine j_iload_n (pc := 91) C dX7_lifts_91 rfl 1 rfl ?_
        exact j_iret (pc := 92) C hr hk (fun i => [].getD i 0, fun i => [x1_2].getD i 0, fun i => [].getD i (fun _ => 0), fun i => [].getD i (fun _ => 0)) rfl trivial [0, 1, 2, 3, 4] (by decide) rfl (by decide) (by decide) dX7_lifts_92
      · skip
        rw [i_le] at c_2
        refine j_aload_n (pc := 12) C dX7_lifts_12 rfl 2 rfl ?_
        refine j_get (pc := 13) (ci := 7) (v := .ref n4) C inw_7 0 rfl rfl 3 (by decide) wd_23 rfl rfl dX7_lifts_13 ?_
        refine j_iload_n (pc := 16) C dX7_lifts_16 rfl 0 rfl ?_
        obtain ⟨v_3, ev_3⟩ : ∃ z, n_asking (x1_3).toInt.toNat = z := ⟨_, rfl⟩
        have env_3 : (n_asking (x1_3).toInt.toNat).toInt = v_3.toInt := by rw [ev_3]
        have hv_3 := h_n_asking (x1_3).toInt.toNat (i_lt_n hi_1_0.1 (by omega)); rw [ev_3] at hv_3
        refine j_iald (pc := 17) (v := v_3) (k := (x1_3).toInt.toNat) C 4 1 rfl rfl (i_nn hi_1_0.1) rfl (i_lt_n hi_1_0.1 (by omega)) ev_3 dX7_lifts_17 ?_
        refine j_istore (pc := 18) (lv' := [(4, .int v_3), (3, .int x1_3), (2, .int x1_2), (0, .ref n0), (1, .int p0)]) C dX7_lifts_18 (by decide) rfl ?_
        refine j_aload_n (pc := 20) C dX7_lifts_20 rfl 3 rfl ?_
        refine j_iload (pc := 21) C dX7_lifts_21 0 rfl ?_
        refine j_callV (pc := 23) (As := [.int v_3]) (rest := []) (wr := [(n2, .inl (cyI, 12, .inl n_stack)), (n3, .inl (cyI, 12, .inl n_level)), (n4, .inl (cyI, 30, .inl n_asking))]) C (c_X7_isOut l D cyC cyI cyJ cyZ cyO n0 n1 n2 n3 n4 v_3 n_askings n_cost n_laid n_shelf h_n_askings h_n_laid hv_3 h_n_shelf) wd_13 wd_9 wd_14 wd_15 wd_16 ⟨by decide, by decide, rfl⟩ rfl ⟨rfl, rfl, by decide, by decide⟩ ⟨by decide, by decide⟩ [0, 1] [2, 3, 4] rfl rfl ⟨by decide, by decide, by decide⟩ 0 rfl rfl rfl (Nat.le_of_ble_eq_true rfl) dX7_lifts_23 (fun u_4 hw_5 => ?_)
        refine j_eq (ws2 := [(n2, .inl (cyI, 12, .inl n_stack)), (n3, .inl (cyI, 12, .inl n_level)), (n4, .inl (cyI, 30, .inl n_asking)), (n0, .inr (7, [.ref n1, .ref n2, .ref n3, .ref n4, .int n_askings, .int n_cost, .int n_laid])), (n1, .inl (cyI, 12, .inl n_shelf))]) (pc2 := 26) (lv2 := [(4, .int v_3), (3, .int x1_3), (2, .int x1_2), (0, .ref n0), (1, .int p0)]) (st2 := [.int (u_4.2.1 0)]) rfl rfl rfl rfl ?_
        obtain ⟨hw_5_0, hw_5_1, hw_5_2⟩ := hw_5
        refine j_if_ne (pc := 26) (tgt := 85) C dX7_lifts_26 (by decide) (fun c_6 => ?_) (fun c_6 => ?_)
        · skip
          have el_0 : (0 : Int32).toInt = 0 := rfl
          rw [i_eq] at c_6
          have k0c_6 : ((u_4.2.1 0)).toInt = 1 := by omega
          obtain ⟨v_7, ev_7⟩ : ∃ z : Int32, x1_3 + 1 = z := ⟨_, rfl⟩
          have el_1 : (1 : Int32).toInt = 1 := rfl
          have hv_7 : v_7.toInt = x1_3.toInt + (1 : Int32).toInt := by rw [← ev_7]; exact fb_addI (by omega) (by omega)
          refine j_iinc (pc := 85) (v := v_7) (lv' := [(3, .int v_7), (4, .int v_3), (2, .int x1_2), (0, .ref n0), (1, .int p0)]) C dX7_lifts_85 1 rfl ev_7 (by decide) rfl ?_
          refine j_goto (pc := 88) (tgt := 4) C dX7_lifts_88 (by decide) ?_
          refine j_subG (ws' := [(n0, .inr (7, [.ref n1, .ref n2, .ref n3, .ref n4, .int n_askings, .int n_cost, .int n_laid])), (n1, .inl (cyI, 12, .inl n_shelf)), (n2, .inl (cyI, 12, .inl n_stack)), (n3, .inl (cyI, 12, .inl n_level)), (n4, .inl (cyI, 30, .inl n_asking))]) [3, 4, 0, 1, 2] (by decide) rfl ?_
          exact j_lv [0, 2, 3, 4] rfl (ih_1 v_7 x1_2 (by omega) (by omega))
        · skip
          have el_0 : (0 : Int32).toInt = 0 := rfl
          rw [i_eq] at c_6
          refine j_aload_n (pc := 29) C dX7_lifts_29 rfl 3 rfl ?_
          refine j_iload_n (pc := 30) C dX7_lifts_30 rfl 4 rfl ?_
          refine j_aload_n (pc := 31) C dX7_lifts_31 rfl 3 rfl ?_
          refine j_get (pc := 32) (ci := 7) (v := .ref n1) C inw_7 3 rfl rfl 0 (by decide) wd_2 rfl rfl dX7_lifts_32 ?_
          refine j_iload (pc := 35) C dX7_lifts_35 0 rfl ?_
          obtain ⟨v_8, ev_8⟩ : ∃ z, n_shelf (v_3).toInt.toNat = z := ⟨_, rfl⟩
          have env_8 : (n_shelf (v_3).toInt.toNat).toInt = v_8.toInt := by rw [ev_8]
          have hv_8 := h_n_shelf (v_3).toInt.toNat (i_lt_n hv_3.1 (Int.lt_of_le_of_lt hv_3.2 (by decide))); rw [ev_8] at hv_8
          refine j_iald (pc := 37) (v := v_8) (k := (v_3).toInt.toNat) C 4 1 rfl rfl (i_nn hv_3.1) rfl (i_lt_n hv_3.1 (Int.lt_of_le_of_lt hv_3.2 (by decide))) ev_8 dX7_lifts_37 ?_
          refine j_aload_n (pc := 38) C dX7_lifts_38 rfl 3 rfl ?_
          refine j_get (pc := 39) (ci := 7) (v := .ref n2) C inw_7 3 rfl rfl 1 (by decide) wd_3 rfl rfl dX7_lifts_39 ?_
          refine j_iload (pc := 42) C dX7_lifts_42 0 rfl ?_
          obtain ⟨v_9, ev_9⟩ : ∃ z, n_stack (v_3).toInt.toNat = z := ⟨_, rfl⟩
          have env_9 : (n_stack (v_3).toInt.toNat).toInt = v_9.toInt := by rw [ev_9]
          have hv_9 := h_n_stack (v_3).toInt.toNat (i_lt_n hv_3.1 (Int.lt_of_le_of_lt hv_3.2 (by decide))); rw [ev_9] at hv_9
          refine j_iald (pc := 44) (v := v_9) (k := (v_3).toInt.toNat) C 0 1 rfl rfl (i_nn hv_3.1) rfl (i_lt_n hv_3.1 (Int.lt_of_le_of_lt hv_3.2 (by decide))) ev_9 dX7_lifts_44 ?_
          refine j_callV (pc := 45) (As := [.int p0, .int v_8, .int v_9]) (rest := []) (wr := [(n3, .inl (cyI, 12, .inl n_level)), (n4, .inl (cyI, 30, .inl n_asking))]) C (c_X7_stands l D cyC cyI cyJ cyZ cyO n0 n1 n2 n3 n4 p0 v_8 v_9 n_askings n_cost n_laid n_shelf n_stack h_n_askings h_n_laid h_p0 h_n_shelf h_n_stack) wd_8 wd_9 wd_10 wd_11 wd_12 ⟨by decide, by decide, rfl⟩ rfl ⟨rfl, rfl, by decide, by decide⟩ ⟨by decide, by decide⟩ [3, 4, 0] [1, 2] rfl rfl ⟨by decide, by decide, by decide⟩ 3 rfl rfl rfl (Nat.le_of_ble_eq_true rfl) dX7_lifts_45 (fun u_10 hw_11 => ?_)
          refine j_eq (ws2 := [(n3, .inl (cyI, 12, .inl n_level)), (n4, .inl (cyI, 30, .inl n_asking)), (n0, .inr (7, [.ref n1, .ref n2, .ref n3, .ref n4, .int n_askings, .int n_cost, .int n_laid])), (n1, .inl (cyI, 12, .inl n_shelf)), (n2, .inl (cyI, 12, .inl n_stack))]) (pc2 := 48) (lv2 := [(4, .int v_3), (3, .int x1_3), (2, .int x1_2), (0, .ref n0), (1, .int p0)]) (st2 := [.int (u_10.2.1 0)]) rfl rfl rfl rfl ?_
          obtain ⟨hw_11_0, hw_11_1, hw_11_2⟩ := hw_11
          refine j_if_eq (pc := 48) (tgt := 85) C dX7_lifts_48 (by decide) (fun c_12 => ?_) (fun c_12 => ?_)
          · skip
            have el_0 : (0 : Int32).toInt = 0 := rfl
            rw [i_eq] at c_12
            obtain ⟨v_13, ev_13⟩ : ∃ z : Int32, x1_3 + 1 = z := ⟨_, rfl⟩
            have el_1 : (1 : Int32).toInt = 1 := rfl
            have hv_13 : v_13.toInt = x1_3.toInt + (1 : Int32).toInt := by rw [← ev_13]; exact fb_addI (by omega) (by omega)
            refine j_iinc (pc := 85) (v := v_13) (lv' := [(3, .int v_13), (4, .int v_3), (2, .int x1_2), (0, .ref n0), (1, .int p0)]) C dX7_lifts_85 1 rfl ev_13 (by decide) rfl ?_
            refine j_goto (pc := 88) (tgt := 4) C dX7_lifts_88 (by decide) ?_
            refine j_subG (ws' := [(n0, .inr (7, [.ref n1, .ref n2, .ref n3, .ref n4, .int n_askings, .int n_cost, .int n_laid])), (n1, .inl (cyI, 12, .inl n_shelf)), (n2, .inl (cyI, 12, .inl n_stack)), (n3, .inl (cyI, 12, .inl n_level)), (n4, .inl (cyI, 30, .inl n_asking))]) [2, 3, 4, 0, 1] (by decide) rfl ?_
            exact j_lv [0, 2, 3, 4] rfl (ih_1 v_13 x1_2 (by omega) (by omega))
          · skip
            have el_0 : (0 : Int32).toInt = 0 := rfl
            rw [i_eq] at c_12
            have k0c_12 : ((u_10.2.1 0)).toInt = 1 := by omega
            refine j_iload_n (pc := 51) C dX7_lifts_51 rfl 2 rfl ?_
            refine j_iload (pc := 52) C dX7_lifts_52 0 rfl ?_
            refine j_iload_n (pc := 54) C dX7_lifts_54 rfl 4 rfl ?_
            refine j_icmp_ne (pc := 55) (tgt := 62) C dX7_lifts_55 (by decide) (fun c_14 => ?_) (fun c_14 => ?_)
            · skip
              rw [i_eq] at c_14
              refine j_aload_n (pc := 62) C dX7_lifts_62 rfl 3 rfl ?_
              refine j_get (pc := 63) (ci := 7) (v := .ref n3) C inw_7 2 rfl rfl 2 (by decide) wd_21 rfl rfl dX7_lifts_63 ?_
              refine j_iload_n (pc := 66) C dX7_lifts_66 rfl 4 rfl ?_
              obtain ⟨v_15, ev_15⟩ : ∃ z, n_level (p0).toInt.toNat = z := ⟨_, rfl⟩
              have env_15 : (n_level (p0).toInt.toNat).toInt = v_15.toInt := by rw [ev_15]
              have hv_15 := h_n_level (p0).toInt.toNat (i_lt_n h_p0.1 (Int.lt_of_le_of_lt h_p0.2 (by decide))); rw [ev_15] at hv_15
              refine j_iald (pc := 67) (v := v_15) (k := (p0).toInt.toNat) C 0 1 rfl rfl (i_nn h_p0.1) rfl (i_lt_n h_p0.1 (Int.lt_of_le_of_lt h_p0.2 (by decide))) ev_15 dX7_lifts_67 ?_
              refine j_aload_n (pc := 68) C dX7_lifts_68 rfl 3 rfl ?_
              refine j_get (pc := 69) (ci := 7) (v := .ref n3) C inw_7 2 rfl rfl 2 (by decide) wd_21 rfl rfl dX7_lifts_69 ?_
              refine j_iload (pc := 72) C dX7_lifts_72 0 rfl ?_
              obtain ⟨v_16, ev_16⟩ : ∃ z, n_level (v_3).toInt.toNat = z := ⟨_, rfl⟩
              have env_16 : (n_level (v_3).toInt.toNat).toInt = v_16.toInt := by rw [ev_16]
              have hv_16 := h_n_level (v_3).toInt.toNat (i_lt_n hv_3.1 (Int.lt_of_le_of_lt hv_3.2 (by decide))); rw [ev_16] at hv_16
              refine j_iald (pc := 74) (v := v_16) (k := (v_3).toInt.toNat) C 0 1 rfl rfl (i_nn hv_3.1) rfl (i_lt_n hv_3.1 (Int.lt_of_le_of_lt hv_3.2 (by decide))) ev_16 dX7_lifts_74 ?_
              refine j_icmp_le (pc := 75) (tgt := 82) C dX7_lifts_75 (by decide) (fun c_17 => ?_) (fun c_17 => ?_)
              · skip
                rw [i_le] at c_17
                refine j_iconst (pc := 82) (v := 0) C dX7_lifts_82 (by decide) ?_
                obtain ⟨v_18, ev_18⟩ : ∃ z : Int32, x1_2 + 0 = z := ⟨_, rfl⟩
                have el_0 : (0 : Int32).toInt = 0 := rfl
                refine j_iadd (pc := 83) (v := v_18) C dX7_lifts_83 ev_18 ?_
                refine j_istore_n (pc := 84) (lv' := [(2, .int v_18), (4, .int v_3), (3, .int x1_3), (0, .ref n0), (1, .int p0)]) C dX7_lifts_84 rfl (by decide) rfl ?_
                obtain ⟨v_19, ev_19⟩ : ∃ z : Int32, x1_3 + 1 = z := ⟨_, rfl⟩
                have el_1 : (1 : Int32).toInt = 1 := rfl
                have hv_19 : v_19.toInt = x1_3.toInt + (1 : Int32).toInt := by rw [← ev_19]; exact fb_addI (by omega) (by omega)
                refine j_iinc (pc := 85) (v := v_19) (lv' := [(3, .int v_19), (2, .int v_18), (4, .int v_3), (0, .ref n0), (1, .int p0)]) C dX7_lifts_85 2 rfl ev_19 (by decide) rfl ?_
                refine j_goto (pc := 88) (tgt := 4) C dX7_lifts_88 (by decide) ?_
                refine j_subG (ws' := [(n0, .inr (7, [.ref n1, .ref n2, .ref n3, .ref n4, .int n_askings, .int n_cost, .int n_laid])), (n1, .inl (cyI, 12, .inl n_shelf)), (n2, .inl (cyI, 12, .inl n_stack)), (n3, .inl (cyI, 12, .inl n_level)), (n4, .inl (cyI, 30, .inl n_asking))]) [2, 3, 4, 0, 1] (by decide) rfl ?_
                exact j_lv [0, 1, 3, 4] rfl (ih_1 v_19 v_18 (by omega) (by omega))
              · skip
                rw [i_le] at c_17
                refine j_iconst (pc := 78) (v := 2) C dX7_lifts_78 (by decide) ?_
                refine j_goto (pc := 79) (tgt := 83) C dX7_lifts_79 (by decide) ?_
                obtain ⟨v_20, ev_20⟩ : ∃ z : Int32, x1_2 + 2 = z := ⟨_, rfl⟩
                have el_2 : (2 : Int32).toInt = 2 := rfl
                refine j_iadd (pc := 83) (v := v_20) C dX7_lifts_83 ev_20 ?_
                refine j_istore_n (pc := 84) (lv' := [(2, .int v_20), (4, .int v_3), (3, .int x1_3), (0, .ref n0), (1, .int p0)]) C dX7_lifts_84 rfl (by decide) rfl ?_
                obtain ⟨v_21, ev_21⟩ : ∃ z : Int32, x1_3 + 1 = z := ⟨_, rfl⟩
                have el_1 : (1 : Int32).toInt = 1 := rfl
                have hv_21 : v_21.toInt = x1_3.toInt + (1 : Int32).toInt := by rw [← ev_21]; exact fb_addI (by omega) (by omega)
                refine j_iinc (pc := 85) (v := v_21) (lv' := [(3, .int v_21), (2, .int v_20), (4, .int v_3), (0, .ref n0), (1, .int p0)]) C dX7_lifts_85 2 rfl ev_21 (by decide) rfl ?_
                refine j_goto (pc := 88) (tgt := 4) C dX7_lifts_88 (by decide) ?_
                refine j_subG (ws' := [(n0, .inr (7, [.ref n1, .ref n2, .ref n3, .ref n4, .int n_askings, .int n_cost, .int n_laid])), (n1, .inl (cyI, 12, .inl n_shelf)), (n2, .inl (cyI, 12, .inl n_stack)), (n3, .inl (cyI, 12, .inl n_level)), (n4, .inl (cyI, 30, .inl n_asking))]) [2, 3, 4, 0, 1] (by decide) rfl ?_
                exact j_lv [0, 1, 3, 4] rfl (ih_1 v_21 v_20 (by omega) (by omega))
            · skip
              rw [i_eq] at c_14
              refine j_iconst (pc := 58) (v := 1) C dX7_lifts_58 (by decide) ?_
              refine j_goto (pc := 59) (tgt := 83) C dX7_lifts_59 (by decide) ?_
              obtain ⟨v_22, ev_22⟩ : ∃ z : Int32, x1_2 + 1 = z := ⟨_, rfl⟩
              have el_1 : (1 : Int32).toInt = 1 := rfl
              refine j_iadd (pc := 83) (v := v_22) C dX7_lifts_83 ev_22 ?_
              refine j_istore_n (pc := 84) (lv' := [(2, .int v_22), (4, .int v_3), (3, .int x1_3), (0, .ref n0), (1, .int p0)]) C dX7_lifts_84 rfl (by decide) rfl ?_
              obtain ⟨v_23, ev_23⟩ : ∃ z : Int32, x1_3 + 1 = z := ⟨_, rfl⟩
              have el_1 : (1 : Int32).toInt = 1 := rfl
              have hv_23 : v_23.toInt = x1_3.toInt + (1 : Int32).toInt := by rw [← ev_23]; exact fb_addI (by omega) (by omega)
              refine j_iinc (pc := 85) (v := v_23) (lv' := [(3, .int v_23), (2, .int v_22), (4, .int v_3), (0, .ref n0), (1, .int p0)]) C dX7_lifts_85 2 rfl ev_23 (by decide) rfl ?_
              refine j_goto (pc := 88) (tgt := 4) C dX7_lifts_88 (by decide) ?_
              refine j_subG (ws' := [(n0, .inr (7, [.ref n1, .ref n2, .ref n3, .ref n4, .int n_askings, .int n_cost, .int n_laid])), (n1, .inl (cyI, 12, .inl n_shelf)), (n2, .inl (cyI, 12, .inl n_stack)), (n3, .inl (cyI, 12, .inl n_level)), (n4, .inl (cyI, 30, .inl n_asking))]) [2, 3, 4, 0, 1] (by decide) rfl ?_
              exact j_lv [0, 1, 3, 4] rfl (ih_1 v_23 v_22 (by omega) (by omega))
  have el_0 : (0 : Int32).toInt = 0 := rfl
  have el_0 : (0 : Int32).toInt = 0 := rfl
  exact j_lv [0, 1, 2, 3] rfl (loop_1 4096 0 0 (by decide) (by omega))
set_option maxHeartbeats 4000000 in
set_option maxRecDepth 100000 in
theorem c_X7_timesAsked (l : Launch) (D : DG) (cyC cyI cyJ cyZ cyO : ClassId) (n0 : Nat) (n4 : Nat) (n1 : Nat) (n2 : Nat) (n3 : Nat) (p0 : Int32) (n_askings : Int32) (n_cost : Int32) (n_laid : Int32) (n_asking : Nat → Int32) (h_n_askings : 0 ≤ (n_askings).toInt ∧ (n_askings).toInt ≤ 30) (h_n_laid : 0 ≤ (n_laid).toInt ∧ (n_laid).toInt ≤ 1) (h_n_asking : Iv 30 (0) (11) n_asking) : KK l D (TY cyC cyI cyJ cyZ cyO) yX7_timesAsked cX7_timesAsked 4 (some .int) ({ frames := 0, cells := 0, slots := 0, locals := 0 } : Room) 0 0 [.ref n0, .int p0] [(n0, .inr (7, [.ref n1, .ref n2, .ref n3, .ref n4, .int n_askings, .int n_cost, .int n_laid])), (n4, .inl (cyI, 30, .inl n_asking))] (fun u => some (.int (u.2.1 0))) (fun u => True) (fun u => [(n0, .inr (7, [.ref n1, .ref n2, .ref n3, .ref n4, .int n_askings, .int n_cost, .int n_laid])), (n4, .inl (cyI, 30, .inl n_asking))]) := by
  refine KK.of (lv0 := [(0, .ref n0), (1, .int p0)]) (by decide) rfl (Nat.le_of_ble_eq_true rfl) ?_
  intro p e s m args below meth c A C hr hk hin
  refine j_iconst (pc := 0) (v := 0) C dX7_timesAsked_0 (by decide) ?_
  refine j_istore_n (pc := 1) (lv' := [(2, .int 0), (0, .ref n0), (1, .int p0)]) C dX7_timesAsked_1 rfl (by decide) rfl ?_
  refine j_iconst (pc := 2) (v := 0) C dX7_timesAsked_2 (by decide) ?_
  refine j_istore_n (pc := 3) (lv' := [(3, .int 0), (2, .int 0), (0, .ref n0), (1, .int p0)]) C dX7_timesAsked_3 rfl (by decide) rfl ?_
  have loop_1 : ∀ (k_1 : Nat) (x1_3 : Int32) (x1_2 : Int32), (0 ≤ (x1_3).toInt ∧ (x1_3).toInt ≤ 30) → (30 - x1_3.toInt).toNat < k_1 → J p l e ({ frames := 0, cells := 0, slots := 0, locals := 0 } : Room) s m args below meth c D A 4 0 0 (QX below D (TY cyC cyI cyJ cyZ cyO) A (fun u => some (.int (u.2.1 0))) (fun u => True) (fun u => [(n0, .inr (7, [.ref n1, .ref n2, .ref n3, .ref n4, .int n_askings, .int n_cost, .int n_laid])), (n4, .inl (cyI, 30, .inl n_asking))]) args s 0 0) [(n0, .inr (7, [.ref n1, .ref n2, .ref n3, .ref n4, .int n_askings, .int n_cost, .int n_laid])), (n4, .inl (cyI, 30, .inl n_asking))] 4 [(3, .int x1_3), (2, .int x1_2), (0, .ref n0), (1, .int p0)] [] := by
    intro k_1
    induction k_1 with
    | zero =>
      intro x1_3 x1_2 hi_1_0 hm_1
      exact absurd hm_1 (Nat.not_lt_zero _)
    | succ k_1 ih_1 =>
      intro x1_3 x1_2 hi_1_0 hm_1
      refine j_iload_n (pc := 4) C dX7_timesAsked_4 rfl 0 rfl ?_
      refine j_aload_n (pc := 5) C dX7_timesAsked_5 rfl 2 rfl ?_
      refine j_get (pc := 6) (ci := 7) (v := .int n_askings) C inw_7 0 rfl rfl 4 (by decide) wd_22 rfl rfl dX7_timesAsked_6 ?_
      refine j_icmp_ge (pc := 9) (tgt := 36) C dX7_timesAsked_9 (by decide) (fun c_2 => ?_) (fun c_2 => ?_)
      · skip
        rw [i_le] at c_2
        refine j_iload_n (pc := 36) C dX7_timesAsked_36 rfl 1 rfl ?_
        exact j_iret (pc := 37) C hr hk (fun i => [].getD i 0, fun i => [x1_2].getD i 0, fun i => [].getD i (fun _ => 0), fun i => [].getD i (fun _ => 0)) rfl trivial [0, 1] (by decide) rfl (by decide) (by decide) dX7_timesAsked_37
      · skip
        rw [i_le] at c_2
        refine j_iload_n (pc := 12) C dX7_timesAsked_12 rfl 1 rfl ?_
        refine j_aload_n (pc := 13) C dX7_timesAsked_13 rfl 2 rfl ?_
        refine j_get (pc := 14) (ci := 7) (v := .ref n4) C inw_7 0 rfl rfl 3 (by decide) wd_23 rfl rfl dX7_timesAsked_14 ?_
        refine j_iload_n (pc := 17) C dX7_timesAsked_17 rfl 0 rfl ?_
        obtain ⟨v_3, ev_3⟩ : ∃ z, n_asking (x1_3).toInt.toNat = z := ⟨_, rfl⟩
        have env_3 : (n_asking (x1_3).toInt.toNat).toInt = v_3.toInt := by rw [ev_3]
        have hv_3 := h_n_asking (x1_3).toInt.toNat (i_lt_n hi_1_0.1 (by omega)); rw [ev_3] at hv_3
        refine j_iald (pc := 18) (v := v_3) (k := (x1_3).toInt.toNat) C 1 1 rfl rfl (i_nn hi_1_0.1) rfl (i_lt_n hi_1_0.1 (by omega)) ev_3 dX7_timesAsked_18 ?_
        refine j_iload_n (pc := 19) C dX7_timesAsked_19 rfl 3 rfl ?_
        refine j_icmp_ne (pc := 20) (tgt := 27) C dX7_timesAsked_20 (by decide) (fun c_4 => ?_) (fun c_4 => ?_)
        · skip
          rw [i_eq] at c_4
          refine j_iconst (pc := 27) (v := 0) C dX7_timesAsked_27 (by decide) ?_
          obtain ⟨v_5, ev_5⟩ : ∃ z : Int32, x1_2 + 0 = z := ⟨_, rfl⟩
          have el_0 : (0 : Int32).toInt = 0 := rfl
          refine j_iadd (pc := 28) (v := v_5) C dX7_timesAsked_28 ev_5 ?_
          refine j_istore_n (pc := 29) (lv' := [(2, .int v_5), (3, .int x1_3), (0, .ref n0), (1, .int p0)]) C dX7_timesAsked_29 rfl (by decide) rfl ?_
          obtain ⟨v_6, ev_6⟩ : ∃ z : Int32, x1_3 + 1 = z := ⟨_, rfl⟩
          have el_1 : (1 : Int32).toInt = 1 := rfl
          have hv_6 : v_6.toInt = x1_3.toInt + (1 : Int32).toInt := by rw [← ev_6]; exact fb_addI (by omega) (by omega)
          refine j_iinc (pc := 30) (v := v_6) (lv' := [(3, .int v_6), (2, .int v_5), (0, .ref n0), (1, .int p0)]) C dX7_timesAsked_30 1 rfl ev_6 (by decide) rfl ?_
          refine j_goto (pc := 33) (tgt := 4) C dX7_timesAsked_33 (by decide) ?_
          exact j_lv [0, 1, 2, 3] rfl (ih_1 v_6 v_5 (by omega) (by omega))
        · skip
          rw [i_eq] at c_4
          refine j_iconst (pc := 23) (v := 1) C dX7_timesAsked_23 (by decide) ?_
          refine j_goto (pc := 24) (tgt := 28) C dX7_timesAsked_24 (by decide) ?_
          obtain ⟨v_7, ev_7⟩ : ∃ z : Int32, x1_2 + 1 = z := ⟨_, rfl⟩
          have el_1 : (1 : Int32).toInt = 1 := rfl
          refine j_iadd (pc := 28) (v := v_7) C dX7_timesAsked_28 ev_7 ?_
          refine j_istore_n (pc := 29) (lv' := [(2, .int v_7), (3, .int x1_3), (0, .ref n0), (1, .int p0)]) C dX7_timesAsked_29 rfl (by decide) rfl ?_
          obtain ⟨v_8, ev_8⟩ : ∃ z : Int32, x1_3 + 1 = z := ⟨_, rfl⟩
          have el_1 : (1 : Int32).toInt = 1 := rfl
          have hv_8 : v_8.toInt = x1_3.toInt + (1 : Int32).toInt := by rw [← ev_8]; exact fb_addI (by omega) (by omega)
          refine j_iinc (pc := 30) (v := v_8) (lv' := [(3, .int v_8), (2, .int v_7), (0, .ref n0), (1, .int p0)]) C dX7_timesAsked_30 1 rfl ev_8 (by decide) rfl ?_
          refine j_goto (pc := 33) (tgt := 4) C dX7_timesAsked_33 (by decide) ?_
          exact j_lv [0, 1, 2, 3] rfl (ih_1 v_8 v_7 (by omega) (by omega))
  have el_0 : (0 : Int32).toInt = 0 := rfl
  have el_0 : (0 : Int32).toInt = 0 := rfl
  exact j_lv [0, 1, 2, 3] rfl (loop_1 4096 0 0 (by decide) (by omega))
set_option maxHeartbeats 4000000 in
set_option maxRecDepth 100000 in
theorem c_X7_copy (l : Launch) (D : DG) (cyC cyI cyJ cyZ cyO : ClassId) (n0 : Nat) (n1 : Nat) (n2 : Nat) (n3 : Nat) (n4 : Nat) (k0 : Nat) (k1 : Nat) (k2 : Nat) (k3 : Nat) (k4 : Nat) (n_askings : Int32) (n_cost : Int32) (n_laid : Int32) (k_askings : Int32) (k_cost : Int32) (k_laid : Int32) (n_shelf : Nat → Int32) (n_stack : Nat → Int32) (n_level : Nat → Int32) (n_asking : Nat → Int32) (k_shelf : Nat → Int32) (k_stack : Nat → Int32) (k_level : Nat → Int32) (k_asking : Nat → Int32) (h_n_askings : 0 ≤ (n_askings).toInt ∧ (n_askings).toInt ≤ 30) (h_n_laid : 0 ≤ (n_laid).toInt ∧ (n_laid).toInt ≤ 1) (h_k_askings : 0 ≤ (k_askings).toInt ∧ (k_askings).toInt ≤ 30) (h_k_laid : 0 ≤ (k_laid).toInt ∧ (k_laid).toInt ≤ 1) (h_n_shelf : Iv 12 (-1) (3) n_shelf) (h_n_stack : Iv 12 (0) (7) n_stack) (h_n_level : Iv 12 (0) (11) n_level) (h_n_asking : Iv 30 (0) (11) n_asking) (h_k_shelf : Iv 12 (-1) (3) k_shelf) (h_k_stack : Iv 12 (0) (7) k_stack) (h_k_level : Iv 12 (0) (11) k_level) (h_k_asking : Iv 30 (0) (11) k_asking) : KK l D (TY cyC cyI cyJ cyZ cyO) yX7_copy cX7_copy 2 none ({ frames := 1, cells := 0, slots := 0, locals := 18 } : Room) 0 0 [.ref n0, .ref k0] [(n0, .inr (7, [.ref n1, .ref n2, .ref n3, .ref n4, .int n_askings, .int n_cost, .int n_laid])), (n1, .inl (cyI, 12, .inl n_shelf)), (n2, .inl (cyI, 12, .inl n_stack)), (n3, .inl (cyI, 12, .inl n_level)), (n4, .inl (cyI, 30, .inl n_asking)), (k0, .inr (7, [.ref k1, .ref k2, .ref k3, .ref k4, .int k_askings, .int k_cost, .int k_laid])), (k1, .inl (cyI, 12, .inl k_shelf)), (k2, .inl (cyI, 12, .inl k_stack)), (k3, .inl (cyI, 12, .inl k_level)), (k4, .inl (cyI, 30, .inl k_asking))] (fun u => none) (fun u => True) (fun u => [(n0, .inr (7, [.ref n1, .ref n2, .ref n3, .ref n4, .int k_askings, .int k_cost, .int n_laid])), (n1, .inl (cyI, 12, .inl k_shelf)), (n2, .inl (cyI, 12, .inl k_stack)), (n3, .inl (cyI, 12, .inl k_level)), (n4, .inl (cyI, 30, .inl k_asking)), (k0, .inr (7, [.ref k1, .ref k2, .ref k3, .ref k4, .int k_askings, .int k_cost, .int k_laid])), (k1, .inl (cyI, 12, .inl k_shelf)), (k2, .inl (cyI, 12, .inl k_stack)), (k3, .inl (cyI, 12, .inl k_level)), (k4, .inl (cyI, 30, .inl k_asking))]) := by
  refine KK.of (lv0 := [(0, .ref n0), (1, .ref k0)]) (by decide) rfl (Nat.le_of_ble_eq_true rfl) ?_
  intro p e s m args below meth c A C hr hk hin
  refine j_aload_n (pc := 0) C dX7_copy_0 rfl 1 rfl ?_
  refine j_get (pc := 1) (ci := 7) (v := .ref k1) C inw_7 5 rfl rfl 0 (by decide) wd_2 rfl rfl dX7_copy_1 ?_
  refine j_iconst (pc := 4) (v := 0) C dX7_copy_4 (by decide) ?_
  refine j_aload_n (pc := 5) C dX7_copy_5 rfl 0 rfl ?_
  refine j_get (pc := 6) (ci := 7) (v := .ref n1) C inw_7 0 rfl rfl 0 (by decide) wd_2 rfl rfl dX7_copy_6 ?_
  refine j_iconst (pc := 9) (v := 0) C dX7_copy_9 (by decide) ?_
  refine j_bipush (pc := 10) (v := 12) C dX7_copy_10 (by decide) ?_
  obtain ⟨f_1, ef_1⟩ : ∃ z, z = va_cpy k_shelf n_shelf 0 0 12 := ⟨_, rfl⟩
  have hf_1 : Iv 12 (-1) (3) f_1 := by rw [ef_1]; exact Iv.cpy h_k_shelf h_n_shelf (by decide)
  refine j_acpy (pc := 12) (ks := 0) (kd := 0) (kn := 12) (ws' := [(n0, .inr (7, [.ref n1, .ref n2, .ref n3, .ref n4, .int n_askings, .int n_cost, .int n_laid])), (n1, .inl (cyI, 12, .inl f_1)), (n2, .inl (cyI, 12, .inl n_stack)), (n3, .inl (cyI, 12, .inl n_level)), (n4, .inl (cyI, 30, .inl n_asking)), (k0, .inr (7, [.ref k1, .ref k2, .ref k3, .ref k4, .int k_askings, .int k_cost, .int k_laid])), (k1, .inl (cyI, 12, .inl k_shelf)), (k2, .inl (cyI, 12, .inl k_stack)), (k3, .inl (cyI, 12, .inl k_level)), (k4, .inl (cyI, 30, .inl k_asking))]) C wd_24 wd_25 wd_26 wd_27 6 1 1 rfl rfl rfl (by decide) (by decide) (by decide) (by decide) (by decide) (by decide) (by decide) (by decide) (by decide) (Nat.le_of_ble_eq_true rfl) dX7_copy_12 (by rw [ef_1]; rfl) ?_
  refine j_arrc (q0 := 1) (g := k_shelf) (ws' := [(n0, .inr (7, [.ref n1, .ref n2, .ref n3, .ref n4, .int n_askings, .int n_cost, .int n_laid])), (n1, .inl (cyI, 12, .inl k_shelf)), (n2, .inl (cyI, 12, .inl n_stack)), (n3, .inl (cyI, 12, .inl n_level)), (n4, .inl (cyI, 30, .inl n_asking)), (k0, .inr (7, [.ref k1, .ref k2, .ref k3, .ref k4, .int k_askings, .int k_cost, .int k_laid])), (k1, .inl (cyI, 12, .inl k_shelf)), (k2, .inl (cyI, 12, .inl k_stack)), (k3, .inl (cyI, 12, .inl k_level)), (k4, .inl (cyI, 30, .inl k_asking))]) rfl (fun j hj => by rw [ef_1]; exact cpy_full hj) rfl ?_
  refine j_aload_n (pc := 15) C dX7_copy_15 rfl 1 rfl ?_
  refine j_get (pc := 16) (ci := 7) (v := .ref k2) C inw_7 5 rfl rfl 1 (by decide) wd_3 rfl rfl dX7_copy_16 ?_
  refine j_iconst (pc := 19) (v := 0) C dX7_copy_19 (by decide) ?_
  refine j_aload_n (pc := 20) C dX7_copy_20 rfl 0 rfl ?_
  refine j_get (pc := 21) (ci := 7) (v := .ref n2) C inw_7 0 rfl rfl 1 (by decide) wd_3 rfl rfl dX7_copy_21 ?_
  refine j_iconst (pc := 24) (v := 0) C dX7_copy_24 (by decide) ?_
  refine j_bipush (pc := 25) (v := 12) C dX7_copy_25 (by decide) ?_
  obtain ⟨f_2, ef_2⟩ : ∃ z, z = va_cpy k_stack n_stack 0 0 12 := ⟨_, rfl⟩
  have hf_2 : Iv 12 (0) (7) f_2 := by rw [ef_2]; exact Iv.cpy h_k_stack h_n_stack (by decide)
  refine j_acpy (pc := 27) (ks := 0) (kd := 0) (kn := 12) (ws' := [(n0, .inr (7, [.ref n1, .ref n2, .ref n3, .ref n4, .int n_askings, .int n_cost, .int n_laid])), (n1, .inl (cyI, 12, .inl k_shelf)), (n2, .inl (cyI, 12, .inl f_2)), (n3, .inl (cyI, 12, .inl n_level)), (n4, .inl (cyI, 30, .inl n_asking)), (k0, .inr (7, [.ref k1, .ref k2, .ref k3, .ref k4, .int k_askings, .int k_cost, .int k_laid])), (k1, .inl (cyI, 12, .inl k_shelf)), (k2, .inl (cyI, 12, .inl k_stack)), (k3, .inl (cyI, 12, .inl k_level)), (k4, .inl (cyI, 30, .inl k_asking))]) C wd_24 wd_25 wd_26 wd_27 7 2 1 rfl rfl rfl (by decide) (by decide) (by decide) (by decide) (by decide) (by decide) (by decide) (by decide) (by decide) (Nat.le_of_ble_eq_true rfl) dX7_copy_27 (by rw [ef_2]; rfl) ?_
  refine j_arrc (q0 := 2) (g := k_stack) (ws' := [(n0, .inr (7, [.ref n1, .ref n2, .ref n3, .ref n4, .int n_askings, .int n_cost, .int n_laid])), (n1, .inl (cyI, 12, .inl k_shelf)), (n2, .inl (cyI, 12, .inl k_stack)), (n3, .inl (cyI, 12, .inl n_level)), (n4, .inl (cyI, 30, .inl n_asking)), (k0, .inr (7, [.ref k1, .ref k2, .ref k3, .ref k4, .int k_askings, .int k_cost, .int k_laid])), (k1, .inl (cyI, 12, .inl k_shelf)), (k2, .inl (cyI, 12, .inl k_stack)), (k3, .inl (cyI, 12, .inl k_level)), (k4, .inl (cyI, 30, .inl k_asking))]) rfl (fun j hj => by rw [ef_2]; exact cpy_full hj) rfl ?_
  refine j_aload_n (pc := 30) C dX7_copy_30 rfl 1 rfl ?_
  refine j_get (pc := 31) (ci := 7) (v := .ref k3) C inw_7 5 rfl rfl 2 (by decide) wd_21 rfl rfl dX7_copy_31 ?_
  refine j_iconst (pc := 34) (v := 0) C dX7_copy_34 (by decide) ?_
  refine j_aload_n (pc := 35) C dX7_copy_35 rfl 0 rfl ?_
  refine j_get (pc := 36) (ci := 7) (v := .ref n3) C inw_7 0 rfl rfl 2 (by decide) wd_21 rfl rfl dX7_copy_36 ?_
  refine j_iconst (pc := 39) (v := 0) C dX7_copy_39 (by decide) ?_
  refine j_bipush (pc := 40) (v := 12) C dX7_copy_40 (by decide) ?_
  obtain ⟨f_3, ef_3⟩ : ∃ z, z = va_cpy k_level n_level 0 0 12 := ⟨_, rfl⟩
  have hf_3 : Iv 12 (0) (11) f_3 := by rw [ef_3]; exact Iv.cpy h_k_level h_n_level (by decide)
  refine j_acpy (pc := 42) (ks := 0) (kd := 0) (kn := 12) (ws' := [(n0, .inr (7, [.ref n1, .ref n2, .ref n3, .ref n4, .int n_askings, .int n_cost, .int n_laid])), (n1, .inl (cyI, 12, .inl k_shelf)), (n2, .inl (cyI, 12, .inl k_stack)), (n3, .inl (cyI, 12, .inl f_3)), (n4, .inl (cyI, 30, .inl n_asking)), (k0, .inr (7, [.ref k1, .ref k2, .ref k3, .ref k4, .int k_askings, .int k_cost, .int k_laid])), (k1, .inl (cyI, 12, .inl k_shelf)), (k2, .inl (cyI, 12, .inl k_stack)), (k3, .inl (cyI, 12, .inl k_level)), (k4, .inl (cyI, 30, .inl k_asking))]) C wd_24 wd_25 wd_26 wd_27 8 3 1 rfl rfl rfl (by decide) (by decide) (by decide) (by decide) (by decide) (by decide) (by decide) (by decide) (by decide) (Nat.le_of_ble_eq_true rfl) dX7_copy_42 (by rw [ef_3]; rfl) ?_
  refine j_arrc (q0 := 3) (g := k_level) (ws' := [(n0, .inr (7, [.ref n1, .ref n2, .ref n3, .ref n4, .int n_askings, .int n_cost, .int n_laid])), (n1, .inl (cyI, 12, .inl k_shelf)), (n2, .inl (cyI, 12, .inl k_stack)), (n3, .inl (cyI, 12, .inl k_level)), (n4, .inl (cyI, 30, .inl n_asking)), (k0, .inr (7, [.ref k1, .ref k2, .ref k3, .ref k4, .int k_askings, .int k_cost, .int k_laid])), (k1, .inl (cyI, 12, .inl k_shelf)), (k2, .inl (cyI, 12, .inl k_stack)), (k3, .inl (cyI, 12, .inl k_level)), (k4, .inl (cyI, 30, .inl k_asking))]) rfl (fun j hj => by rw [ef_3]; exact cpy_full hj) rfl ?_
  refine j_aload_n (pc := 45) C dX7_copy_45 rfl 1 rfl ?_
  refine j_get (pc := 46) (ci := 7) (v := .ref k4) C inw_7 5 rfl rfl 3 (by decide) wd_23 rfl rfl dX7_copy_46 ?_
  refine j_iconst (pc := 49) (v := 0) C dX7_copy_49 (by decide) ?_
  refine j_aload_n (pc := 50) C dX7_copy_50 rfl 0 rfl ?_
  refine j_get (pc := 51) (ci := 7) (v := .ref n4) C inw_7 0 rfl rfl 3 (by decide) wd_23 rfl rfl dX7_copy_51 ?_
  refine j_iconst (pc := 54) (v := 0) C dX7_copy_54 (by decide) ?_
  refine j_bipush (pc := 55) (v := 30) C dX7_copy_55 (by decide) ?_
  obtain ⟨f_4, ef_4⟩ : ∃ z, z = va_cpy k_asking n_asking 0 0 30 := ⟨_, rfl⟩
  have hf_4 : Iv 30 (0) (11) f_4 := by rw [ef_4]; exact Iv.cpy h_k_asking h_n_asking (by decide)
  refine j_acpy (pc := 57) (ks := 0) (kd := 0) (kn := 30) (ws' := [(n0, .inr (7, [.ref n1, .ref n2, .ref n3, .ref n4, .int n_askings, .int n_cost, .int n_laid])), (n1, .inl (cyI, 12, .inl k_shelf)), (n2, .inl (cyI, 12, .inl k_stack)), (n3, .inl (cyI, 12, .inl k_level)), (n4, .inl (cyI, 30, .inl f_4)), (k0, .inr (7, [.ref k1, .ref k2, .ref k3, .ref k4, .int k_askings, .int k_cost, .int k_laid])), (k1, .inl (cyI, 12, .inl k_shelf)), (k2, .inl (cyI, 12, .inl k_stack)), (k3, .inl (cyI, 12, .inl k_level)), (k4, .inl (cyI, 30, .inl k_asking))]) C wd_24 wd_25 wd_26 wd_27 9 4 1 rfl rfl rfl (by decide) (by decide) (by decide) (by decide) (by decide) (by decide) (by decide) (by decide) (by decide) (Nat.le_of_ble_eq_true rfl) dX7_copy_57 (by rw [ef_4]; rfl) ?_
  refine j_arrc (q0 := 4) (g := k_asking) (ws' := [(n0, .inr (7, [.ref n1, .ref n2, .ref n3, .ref n4, .int n_askings, .int n_cost, .int n_laid])), (n1, .inl (cyI, 12, .inl k_shelf)), (n2, .inl (cyI, 12, .inl k_stack)), (n3, .inl (cyI, 12, .inl k_level)), (n4, .inl (cyI, 30, .inl k_asking)), (k0, .inr (7, [.ref k1, .ref k2, .ref k3, .ref k4, .int k_askings, .int k_cost, .int k_laid])), (k1, .inl (cyI, 12, .inl k_shelf)), (k2, .inl (cyI, 12, .inl k_stack)), (k3, .inl (cyI, 12, .inl k_level)), (k4, .inl (cyI, 30, .inl k_asking))]) rfl (fun j hj => by rw [ef_4]; exact cpy_full hj) rfl ?_
  refine j_aload_n (pc := 60) C dX7_copy_60 rfl 0 rfl ?_
  refine j_aload_n (pc := 61) C dX7_copy_61 rfl 1 rfl ?_
  refine j_get (pc := 62) (ci := 7) (v := .int k_askings) C inw_7 5 rfl rfl 4 (by decide) wd_22 rfl rfl dX7_copy_62 ?_
  refine j_put (pc := 65) (ci := 7) (v := .int k_askings) (ws' := [(n0, .inr (7, [.ref n1, .ref n2, .ref n3, .ref n4, .int k_askings, .int n_cost, .int n_laid])), (n1, .inl (cyI, 12, .inl k_shelf)), (n2, .inl (cyI, 12, .inl k_stack)), (n3, .inl (cyI, 12, .inl k_level)), (n4, .inl (cyI, 30, .inl k_asking)), (k0, .inr (7, [.ref k1, .ref k2, .ref k3, .ref k4, .int k_askings, .int k_cost, .int k_laid])), (k1, .inl (cyI, 12, .inl k_shelf)), (k2, .inl (cyI, 12, .inl k_stack)), (k3, .inl (cyI, 12, .inl k_level)), (k4, .inl (cyI, 30, .inl k_asking))]) C inw_7 0 rfl rfl 4 (by decide) wd_22 rfl tyX7_ok nmX7 rfl (tyX7_ok 4 (by decide)) rfl rfl (Nat.le_of_ble_eq_true rfl) dX7_copy_65 rfl ?_
  refine j_aload_n (pc := 68) C dX7_copy_68 rfl 0 rfl ?_
  refine j_aload_n (pc := 69) C dX7_copy_69 rfl 1 rfl ?_
  refine j_get (pc := 70) (ci := 7) (v := .int k_cost) C inw_7 5 rfl rfl 5 (by decide) wd_28 rfl rfl dX7_copy_70 ?_
  refine j_put (pc := 73) (ci := 7) (v := .int k_cost) (ws' := [(n0, .inr (7, [.ref n1, .ref n2, .ref n3, .ref n4, .int k_askings, .int k_cost, .int n_laid])), (n1, .inl (cyI, 12, .inl k_shelf)), (n2, .inl (cyI, 12, .inl k_stack)), (n3, .inl (cyI, 12, .inl k_level)), (n4, .inl (cyI, 30, .inl k_asking)), (k0, .inr (7, [.ref k1, .ref k2, .ref k3, .ref k4, .int k_askings, .int k_cost, .int k_laid])), (k1, .inl (cyI, 12, .inl k_shelf)), (k2, .inl (cyI, 12, .inl k_stack)), (k3, .inl (cyI, 12, .inl k_level)), (k4, .inl (cyI, 30, .inl k_asking))]) C inw_7 0 rfl rfl 5 (by decide) wd_28 rfl tyX7_ok nmX7 rfl (tyX7_ok 5 (by decide)) rfl rfl (Nat.le_of_ble_eq_true rfl) dX7_copy_73 rfl ?_
  exact j_vret (pc := 76) C hr hk (fun i => [].getD i 0, fun i => [].getD i 0, fun i => [].getD i (fun _ => 0), fun i => [].getD i (fun _ => 0)) rfl trivial [0, 1, 2, 3, 4, 5, 6, 7, 8, 9] (by decide) rfl (by decide) (by decide) dX7_copy_76
