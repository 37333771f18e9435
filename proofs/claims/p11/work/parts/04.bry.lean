/-- between two signs; blanks; signs of their own -/
def isR (lo hi : Int32) (c : Int32) : Bool := decide (lo.toInt ≤ c.toInt ∧ c.toInt ≤ hi.toInt)
def isB (c : Int32) : Bool := decide (c.toInt = 10 ∨ c.toInt = 32)
def isS (c : Int32) : Bool := decide (c.toInt = 40 ∨ c.toInt = 41 ∨ c.toInt = 60 ∨ c.toInt = 61 ∨ c.toInt = 43 ∨ c.toInt = 45 ∨ c.toInt = 42 ∨ c.toInt = 59)
/-- e is the end of the run of such signs from i on -/
def RE (P : Int32 → Bool) (f : Nat → Int32) (n i e : Nat) : Prop := i ≤ e ∧ (∀ j : Nat, i ≤ j → j < e → j < n ∧ P (f j) = true) ∧ ¬ (e < n ∧ P (f e) = true)
theorem RE.uniq {P : Int32 → Bool} {f : Nat → Int32} {n i e1 e2 : Nat} (h1 : RE P f n i e1) (h2 : RE P f n i e2) : e1 = e2 := by
  rcases Nat.lt_trichotomy e1 e2 with q | q | q
  · exact absurd (h2.2.1 e1 h1.1 q) h1.2.2
  · exact q
  · exact absurd (h1.2.1 e2 h2.1 q) h2.2.2
def run (P : Int32 → Bool) (f : Nat → Int32) (n : Nat) : Nat → Nat → Nat
  | 0, i => i
  | k + 1, i => if i < n ∧ P (f i) = true then run P f n k (i + 1) else i
theorem run_RE {P : Int32 → Bool} {f : Nat → Int32} {n : Nat} : ∀ k i, n ≤ i + k → RE P f n i (run P f n k i) := by
  intro k
  induction k with
  | zero => intro i h; exact ⟨Nat.le_refl _, fun j h1 h2 => absurd h2 (by show ¬ j < i; omega), fun h2 => by have : i < n := h2.1; omega⟩
  | succ k ih =>
    intro i h
    by_cases q : i < n ∧ P (f i) = true
    · have e : run P f n (k + 1) i = run P f n k (i + 1) := if_pos q
      rw [e]
      have h1 := ih (i + 1) (by omega)
      refine ⟨by have := h1.1; omega, fun j j1 j2 => ?_, h1.2.2⟩
      rcases Nat.lt_or_ge i j with z | z
      · exact h1.2.1 j (by omega) j2
      · have ej : j = i := by omega
        rw [ej]; exact q
    · have e : run P f n (k + 1) i = i := if_neg q
      rw [e]
      exact ⟨Nat.le_refl _, fun j h1 h2 => absurd h2 (by omega), q⟩
def rn (P : Int32 → Bool) (f : Nat → Int32) (n i : Nat) : Nat := run P f n n i
theorem rn_RE (P : Int32 → Bool) (f : Nat → Int32) (n i : Nat) : RE P f n i (rn P f n i) := run_RE n i (by omega)
theorem RE.rn {P : Int32 → Bool} {f : Nat → Int32} {n i e : Nat} (h : RE P f n i e) : e = rn P f n i := h.uniq (rn_RE P f n i)
/-- the token looked for from i on: its place, where it ends, its kind -/
def tP (f : Nat → Int32) (n i : Nat) : Nat := rn isB f n i
def tW (f : Nat → Int32) (n i : Nat) : Nat := rn (isR 97 122) f n (tP f n i)
def tD (f : Nat → Int32) (n i : Nat) : Nat := rn (isR 48 57) f n (tP f n i)
def tE (f : Nat → Int32) (n i : Nat) : Nat := if n ≤ tP f n i then tP f n i else if tP f n i < tW f n i then tW f n i else if tP f n i < tD f n i then tD f n i else tP f n i + 1
def tK (f : Nat → Int32) (n i : Nat) : Int := if n ≤ tP f n i then 0 else if tP f n i < tW f n i then (if tW f n i ≤ tP f n i + 8 then 1 else 4) else if tP f n i < tD f n i then (if tD f n i ≤ tP f n i + 4 then 2 else 4) else if isS (f (tP f n i)) = true then 3 else 4
/-- where the a-th token is looked for -/
def qq (f : Nat → Int32) (n : Nat) : Nat → Nat
  | 0 => 0
  | a + 1 => tE f n (qq f n a)
/-- two texts that agree have the same tokens -/
theorem RE.cong {P : Int32 → Bool} {f g : Nat → Int32} {n i e : Nat} (h : RE P f n i e) (hg : ∀ j : Nat, j < n → g j = f j) : RE P g n i e :=
  ⟨h.1, fun j j1 j2 => by have := h.2.1 j j1 j2; exact ⟨this.1, by rw [hg j this.1]; exact this.2⟩, fun z => h.2.2 ⟨z.1, by rw [← hg e z.1]; exact z.2⟩⟩
theorem rn_cong {P : Int32 → Bool} {f g : Nat → Int32} {n i : Nat} (hg : ∀ j : Nat, j < n → g j = f j) : rn P g n i = rn P f n i := ((rn_RE P f n i).cong hg).rn.symm
theorem tP_cong {f g : Nat → Int32} {n i : Nat} (hg : ∀ j : Nat, j < n → g j = f j) : tP g n i = tP f n i := rn_cong hg
theorem tE_cong {f g : Nat → Int32} {n i : Nat} (hg : ∀ j : Nat, j < n → g j = f j) : tE g n i = tE f n i := by
  unfold tE tW tD; rw [tP_cong hg, rn_cong hg, rn_cong hg]
theorem tK_cong {f g : Nat → Int32} {n i : Nat} (hg : ∀ j : Nat, j < n → g j = f j) : tK g n i = tK f n i := by
  unfold tK tW tD; rw [tP_cong hg, rn_cong hg, rn_cong hg]
  by_cases q : n ≤ tP f n i
  · rw [if_pos q, if_pos q]
  · rw [hg _ (by omega)]
theorem tPP {f : Nat → Int32} {n i : Nat} : tP f n (tP f n i) = tP f n i := by
  have h := rn_RE isB f n i
  exact (RE.rn (P := isB) (f := f) (n := n) (i := tP f n i) (e := tP f n i) ⟨Nat.le_refl _, fun j h1 h2 => absurd h2 (by omega), h.2.2⟩).symm
theorem tP_ge {f : Nat → Int32} {n i : Nat} : i ≤ tP f n i := (rn_RE isB f n i).1
theorem tE_P {f : Nat → Int32} {n i : Nat} : tE f n (tP f n i) = tE f n i := by unfold tE tW tD; rw [tPP]
theorem tK_P {f : Nat → Int32} {n i : Nat} : tK f n (tP f n i) = tK f n i := by unfold tK tW tD; rw [tPP]
/-- digits -/
def cd (B : Nat) (d : Nat → Nat) : Nat → Nat
  | 0 => 0
  | k + 1 => B * cd B d k + d k
theorem cd_lt {B : Nat} {d : Nat → Nat} : ∀ k, (∀ j, j < k → d j < B) → cd B d k < B ^ k := by
  intro k
  induction k with
  | zero => intro _; rw [Nat.pow_zero]; exact Nat.zero_lt_one
  | succ k ih =>
    intro h
    have h1 := ih (fun j hj => h j (by omega))
    have h2 := h k (by omega)
    show B * cd B d k + d k < B ^ (k + 1)
    have h3 : B * (cd B d k + 1) ≤ B * B ^ k := Nat.mul_le_mul_left B h1
    rw [Nat.mul_add, Nat.mul_one] at h3
    have h4 : B ^ (k + 1) = B * B ^ k := by rw [Nat.pow_succ, Nat.mul_comm]
    rw [h4]; omega
theorem cd_congr {B : Nat} {d d' : Nat → Nat} : ∀ k, (∀ j, j < k → d j = d' j) → cd B d k = cd B d' k := by
  intro k
  induction k with
  | zero => intro _; rfl
  | succ k ih =>
    intro h
    show B * cd B d k + d k = B * cd B d' k + d' k
    rw [ih (fun j hj => h j (by omega)), h k (by omega)]
theorem cd_inj {B : Nat} {d d' : Nat → Nat} : ∀ k k', (∀ j, j < k → 1 ≤ d j ∧ d j < B) → (∀ j, j < k' → 1 ≤ d' j ∧ d' j < B) → cd B d k = cd B d' k' → k = k' ∧ ∀ j, j < k → d j = d' j := by
  intro k
  induction k with
  | zero =>
    intro k' _ h' e
    cases k' with
    | zero => exact ⟨rfl, fun j hj => absurd hj (Nat.not_lt_zero j)⟩
    | succ m =>
      have h1 := h' m (by omega)
      have e' : (0 : Nat) = B * cd B d' m + d' m := e
      omega
  | succ n ih =>
    intro k' h h' e
    cases k' with
    | zero =>
      have h1 := h n (by omega)
      have e' : B * cd B d n + d n = 0 := e
      omega
    | succ m =>
      have h1 := h n (by omega)
      have h2 := h' m (by omega)
      have e' : B * cd B d n + d n = B * cd B d' m + d' m := e
      have e1 : d n = d' m := by
        have a : (B * cd B d n + d n) % B = (B * cd B d' m + d' m) % B := by rw [e']
        rw [Nat.mul_add_mod, Nat.mul_add_mod, Nat.mod_eq_of_lt h1.2, Nat.mod_eq_of_lt h2.2] at a
        exact a
      have e2 : cd B d n = cd B d' m := Nat.eq_of_mul_eq_mul_left (show 0 < B by omega) (by omega)
      obtain ⟨q1, q2⟩ := ih m (fun j hj => h j (by omega)) (fun j hj => h' j (by omega)) e2
      subst q1
      refine ⟨rfl, fun j hj => ?_⟩
      rcases Nat.lt_or_ge j n with z | z
      · exact q2 j z
      · have : j = n := by omega
        rw [this]; exact e1
theorem fb64 {z : Int} (h1 : -9223372036854775808 ≤ z) (h2 : z < 9223372036854775808) : z.bmod (2 ^ 64) = z := by
  rw [Int.bmod_def]; split <;> omega
theorem a64 {x y : Int64} {a b : Int} (hx : x.toInt = a) (hy : y.toInt = b) (h1 : -9223372036854775808 ≤ a + b) (h2 : a + b < 9223372036854775808) : (x + y).toInt = a + b := by rw [Int64.toInt_add, hx, hy, fb64 h1 h2]
theorem s64 {x y : Int64} {a b : Int} (hx : x.toInt = a) (hy : y.toInt = b) (h1 : -9223372036854775808 ≤ a - b) (h2 : a - b < 9223372036854775808) : (x - y).toInt = a - b := by rw [Int64.toInt_sub, hx, hy, fb64 h1 h2]
theorem m64 {x y : Int64} {a b : Int} (hx : x.toInt = a) (hy : y.toInt = b) (h1 : -9223372036854775808 ≤ a * b) (h2 : a * b < 9223372036854775808) : (x * y).toInt = a * b := by rw [Int64.toInt_mul, hx, hy, fb64 h1 h2]
/-- the number of a word, as the class has it and as the reference has it; a number's worth -/
def e32 (f : Nat → Int32) (p : Nat) : Nat → Int64
  | 0 => 0
  | k + 1 => e32 f p k * 32 + (f (p + k)).toInt64 - 97 + 1
def e37 (f : Nat → Int32) (p : Nat) : Nat → Int64
  | 0 => 0
  | k + 1 => 37 * e37 f p k + (f (p + k) - 96).toInt64
def e10 (f : Nat → Int32) (p : Nat) : Nat → Int64
  | 0 => 0
  | k + 1 => 10 * e10 f p k + (f (p + k)).toInt64 - 48
def nV (f : Nat → Int32) (a : Nat) : Nat → Int
  | 0 => 0
  | k + 1 => 10 * nV f a k + (f (a + k)).toInt - 48
def dgt (f : Nat → Int32) (p j : Nat) : Nat := ((f (p + j)).toInt - 96).toNat
def LT8 (f : Nat → Int32) (p k : Nat) : Prop := k ≤ 8 ∧ ∀ j, j < k → 97 ≤ (f (p + j)).toInt ∧ (f (p + j)).toInt ≤ 122
theorem LT8.lo {f : Nat → Int32} {p k : Nat} (h : LT8 f p (k + 1)) : LT8 f p k := ⟨by have := h.1; omega, fun j hj => h.2 j (by omega)⟩
theorem LT8.dg {f : Nat → Int32} {p k : Nat} (h : LT8 f p k) {B : Nat} (hB : 27 ≤ B) : ∀ j, j < k → 1 ≤ dgt f p j ∧ dgt f p j < B := fun j hj => by have := h.2 j hj; unfold dgt; omega
theorem e32_cd {f : Nat → Int32} {p : Nat} : ∀ k, LT8 f p k → (e32 f p k).toInt = ((cd 32 (dgt f p) k : Nat) : Int) := by
  intro k
  induction k with
  | zero => intro _; rfl
  | succ k ih =>
    intro h
    have hk := h.1
    have a := ih h.lo
    have b := h.2 k (by omega)
    have c : cd 32 (dgt f p) k < 32 ^ k := cd_lt k (fun j hj => (h.lo.dg (B := 32) (by decide) j hj).2)
    have d : 32 ^ k ≤ 32 ^ 7 := Nat.pow_le_pow_right (by decide) (by omega)
    have d2 : (32 : Nat) ^ 7 = 34359738368 := by decide
    have e : (dgt f p k : Int) = (f (p + k)).toInt - 96 := by unfold dgt; omega
    show (e32 f p k * 32 + (f (p + k)).toInt64 - 97 + 1).toInt = ((32 * cd 32 (dgt f p) k + dgt f p k : Nat) : Int)
    have l1 : (32 : Int64).toInt = 32 := rfl
    have l2 : (97 : Int64).toInt = 97 := rfl
    have l3 : (1 : Int64).toInt = 1 := rfl
    rw [a64 (s64 (a64 (m64 a l1 (by omega) (by omega)) (Int32.toInt_toInt64 _) (by omega) (by omega)) l2 (by omega) (by omega)) l3 (by omega) (by omega)]
    omega
theorem e37_cd {f : Nat → Int32} {p : Nat} : ∀ k, LT8 f p k → (e37 f p k).toInt = ((cd 37 (dgt f p) k : Nat) : Int) := by
  intro k
  induction k with
  | zero => intro _; rfl
  | succ k ih =>
    intro h
    have hk := h.1
    have a := ih h.lo
    have b := h.2 k (by omega)
    have c : cd 37 (dgt f p) k < 37 ^ k := cd_lt k (fun j hj => (h.lo.dg (B := 37) (by decide) j hj).2)
    have d : 37 ^ k ≤ 37 ^ 7 := Nat.pow_le_pow_right (by decide) (by omega)
    have d2 : (37 : Nat) ^ 7 = 94931877133 := by decide
    have e : (dgt f p k : Int) = (f (p + k)).toInt - 96 := by unfold dgt; omega
    show (37 * e37 f p k + (f (p + k) - 96).toInt64).toInt = ((37 * cd 37 (dgt f p) k + dgt f p k : Nat) : Int)
    have l1 : (37 : Int64).toInt = 37 := rfl
    have l2 : (96 : Int32).toInt = 96 := rfl
    have g : (f (p + k) - 96).toInt64.toInt = (f (p + k)).toInt - 96 := by rw [Int32.toInt_toInt64, fb_subI (by rw [l2]; omega) (by rw [l2]; omega), l2]
    rw [a64 (m64 l1 a (by omega) (by omega)) g (by omega) (by omega)]
    omega
theorem e10_nV {f : Nat → Int32} {p : Nat} : ∀ k, k ≤ 4 → (∀ j, j < k → 48 ≤ (f (p + j)).toInt ∧ (f (p + j)).toInt ≤ 57) → (e10 f p k).toInt = nV f p k ∧ 0 ≤ nV f p k ∧ nV f p k + 1 ≤ (10 ^ k : Nat) := by
  intro k
  induction k with
  | zero => intro _ _; exact ⟨rfl, Int.le_refl 0, by show (0 : Int) + 1 ≤ ((10 ^ 0 : Nat) : Int); decide⟩
  | succ k ih =>
    intro hk h
    obtain ⟨a, a1, a2⟩ := ih (by omega) (fun j hj => h j (by omega))
    have b := h k (by omega)
    have d : 10 ^ k ≤ 10 ^ 3 := Nat.pow_le_pow_right (by decide) (by omega)
    have d2 : (10 : Nat) ^ 3 = 1000 := by decide
    have d3 : (10 : Nat) ^ (k + 1) = 10 * 10 ^ k := by rw [Nat.pow_succ, Nat.mul_comm]
    have l1 : (10 : Int64).toInt = 10 := rfl
    have l2 : (48 : Int64).toInt = 48 := rfl
    have e0 : nV f p (k + 1) = 10 * nV f p k + (f (p + k)).toInt - 48 := rfl
    refine ⟨?_, by omega, by rw [d3]; omega⟩
    show (10 * e10 f p k + (f (p + k)).toInt64 - 48).toInt = _
    rw [s64 (a64 (m64 l1 a (by omega) (by omega)) (Int32.toInt_toInt64 _) (by omega) (by omega)) l2 (by omega) (by omega)]
    rfl
theorem e32_same {f g : Nat → Int32} {p q k m : Nat} (h1 : LT8 f p k) (h2 : LT8 g q m) : e32 f p k = e32 g q m ↔ (k = m ∧ ∀ j, j < k → dgt f p j = dgt g q j) := by
  constructor
  · intro e
    have a := e32_cd k h1; have b := e32_cd m h2
    rw [e, b] at a
    exact cd_inj k m (h1.dg (by decide)) (h2.dg (by decide)) (Int.ofNat.inj a.symm)
  · rintro ⟨rfl, h⟩
    apply Int64.toInt_inj.mp
    rw [e32_cd k h1, e32_cd k h2, cd_congr k h]
theorem e37_same {f g : Nat → Int32} {p q k m : Nat} (h1 : LT8 f p k) (h2 : LT8 g q m) : e37 f p k = e37 g q m ↔ (k = m ∧ ∀ j, j < k → dgt f p j = dgt g q j) := by
  constructor
  · intro e
    have a := e37_cd k h1; have b := e37_cd m h2
    rw [e, b] at a
    exact cd_inj k m (h1.dg (by decide)) (h2.dg (by decide)) (Int.ofNat.inj a.symm)
  · rintro ⟨rfl, h⟩
    apply Int64.toInt_inj.mp
    rw [e37_cd k h1, e37_cd k h2, cd_congr k h]
/-- one name, as the class keeps it and as the reference does -/
def NMR (c v : Int64) : Prop := ∃ (f : Nat → Int32) (p k : Nat), LT8 f p k ∧ c = e32 f p k ∧ v = e37 f p k
theorem NMR.iff {c v c' v' : Int64} (h1 : NMR c v) (h2 : NMR c' v') : c = c' ↔ v = v' := by
  obtain ⟨f, p, k, a1, a2, a3⟩ := h1
  obtain ⟨g, q, m, b1, b2, b3⟩ := h2
  rw [a2, a3, b2, b3]
  exact (e32_same a1 b1).trans (e37_same a1 b1).symm
/-- the text as tokens by their places: kind, worth, the next one's place -/
def tV (f : Nat → Int32) (n p : Nat) : Int64 := if tK f n p = 1 then e37 f (tP f n p) (tE f n p - tP f n p) else if tK f n p = 2 then e10 f (tP f n p) (tE f n p - tP f n p) else (f (tP f n p)).toInt64
def TT (f : Nat → Int32) (n p : Nat) : Int × Int64 × Nat := (tK f n p, tV f n p, tP f n (tE f n p))
theorem tK_1 {f : Nat → Int32} {n i : Nat} (h : tK f n i = 1) : tP f n i < n ∧ tE f n i = tW f n i ∧ tP f n i < tW f n i ∧ tW f n i ≤ tP f n i + 8 := by
  unfold tK at h
  by_cases q0 : n ≤ tP f n i
  · rw [if_pos q0] at h; exact absurd h (by decide)
  · rw [if_neg q0] at h
    by_cases q1 : tP f n i < tW f n i
    · rw [if_pos q1] at h
      by_cases q2 : tW f n i ≤ tP f n i + 8
      · refine ⟨by omega, ?_, q1, q2⟩
        unfold tE; rw [if_neg q0, if_pos q1]
      · rw [if_neg q2] at h; exact absurd h (by decide)
    · rw [if_neg q1] at h
      by_cases q2 : tP f n i < tD f n i
      · rw [if_pos q2] at h
        by_cases q3 : tD f n i ≤ tP f n i + 4
        · rw [if_pos q3] at h; exact absurd h (by decide)
        · rw [if_neg q3] at h; exact absurd h (by decide)
      · rw [if_neg q2] at h
        by_cases q3 : isS (f (tP f n i)) = true
        · rw [if_pos q3] at h; exact absurd h (by decide)
        · rw [if_neg q3] at h; exact absurd h (by decide)
theorem tK_2 {f : Nat → Int32} {n i : Nat} (h : tK f n i = 2) : tP f n i < n ∧ tE f n i = tD f n i ∧ tP f n i < tD f n i ∧ tD f n i ≤ tP f n i + 4 := by
  unfold tK at h
  by_cases q0 : n ≤ tP f n i
  · rw [if_pos q0] at h; exact absurd h (by decide)
  · rw [if_neg q0] at h
    by_cases q1 : tP f n i < tW f n i
    · rw [if_pos q1] at h
      by_cases q2 : tW f n i ≤ tP f n i + 8
      · rw [if_pos q2] at h; exact absurd h (by decide)
      · rw [if_neg q2] at h; exact absurd h (by decide)
    · rw [if_neg q1] at h
      by_cases q2 : tP f n i < tD f n i
      · rw [if_pos q2] at h
        by_cases q3 : tD f n i ≤ tP f n i + 4
        · refine ⟨by omega, ?_, q2, q3⟩
          unfold tE; rw [if_neg q0, if_neg q1, if_pos q2]
        · rw [if_neg q3] at h; exact absurd h (by decide)
      · rw [if_neg q2] at h
        by_cases q3 : isS (f (tP f n i)) = true
        · rw [if_pos q3] at h; exact absurd h (by decide)
        · rw [if_neg q3] at h; exact absurd h (by decide)
theorem tE_gt {f : Nat → Int32} {n i : Nat} (h : tP f n i < n) : tP f n i < tE f n i := by
  unfold tE
  rw [if_neg (by omega)]
  by_cases q1 : tP f n i < tW f n i
  · rw [if_pos q1]; exact q1
  · rw [if_neg q1]
    by_cases q2 : tP f n i < tD f n i
    · rw [if_pos q2]; exact q2
    · rw [if_neg q2]; omega
theorem tK_0 {f : Nat → Int32} {n i : Nat} (h : ¬ tK f n i = 0) : tP f n i < n := by
  rcases Nat.lt_or_ge (tP f n i) n with q | q
  · exact q
  · exact absurd (show tK f n i = 0 from if_pos q) h
theorem isR_iff {lo hi c : Int32} : isR lo hi c = true ↔ lo.toInt ≤ c.toInt ∧ c.toInt ≤ hi.toInt := ⟨fun h => of_decide_eq_true h, fun h => decide_eq_true h⟩
theorem tK_LT8 {f : Nat → Int32} {n i : Nat} (h : tK f n i = 1) : LT8 f (tP f n i) (tE f n i - tP f n i) := by
  obtain ⟨h1, h2, h3, h4⟩ := tK_1 h
  rw [h2]
  refine ⟨by omega, fun j hj => ?_⟩
  have h5 := (rn_RE (isR 97 122) f n (tP f n i)).2.1 (tP f n i + j) (by omega) (by show tP f n i + j < tW f n i; omega)
  exact isR_iff.mp h5.2
theorem tK_dig {f : Nat → Int32} {n i : Nat} (h : tK f n i = 2) : tE f n i - tP f n i ≤ 4 ∧ ∀ j, j < tE f n i - tP f n i → 48 ≤ (f (tP f n i + j)).toInt ∧ (f (tP f n i + j)).toInt ≤ 57 := by
  obtain ⟨h1, h2, h3, h4⟩ := tK_2 h
  rw [h2]
  refine ⟨by omega, fun j hj => ?_⟩
  have h5 := (rn_RE (isR 48 57) f n (tP f n i)).2.1 (tP f n i + j) (by omega) (by show tP f n i + j < tD f n i; omega)
  exact isR_iff.mp h5.2
/-- what holds of each table of tokens -/
def PT (T : Nat → Int × Int64 × Nat) : Prop := ∀ p, ¬ (T p).1 = 0 → p < 1000 ∧ p < (T p).2.2
theorem PT_TT {f : Nat → Int32} {n : Nat} (hn : n ≤ 1000) : PT (TT f n) := fun p h => by
  have h1 := tK_0 h
  have h2 := tE_gt h1
  have h3 : p ≤ tP f n p := tP_ge
  have h4 : tE f n p ≤ tP f n (tE f n p) := tP_ge
  exact ⟨by omega, show p < tP f n (tE f n p) by omega⟩
theorem e37_cong {f g : Nat → Int32} {p : Nat} : ∀ k, (∀ j, j < k → g (p + j) = f (p + j)) → e37 g p k = e37 f p k := by
  intro k
  induction k with
  | zero => intro _; rfl
  | succ k ih =>
    intro h
    show 37 * e37 g p k + (g (p + k) - 96).toInt64 = 37 * e37 f p k + (f (p + k) - 96).toInt64
    rw [ih (fun j hj => h j (by omega)), h k (by omega)]
theorem e10_cong {f g : Nat → Int32} {p : Nat} : ∀ k, (∀ j, j < k → g (p + j) = f (p + j)) → e10 g p k = e10 f p k := by
  intro k
  induction k with
  | zero => intro _; rfl
  | succ k ih =>
    intro h
    show 10 * e10 g p k + (g (p + k)).toInt64 - 48 = 10 * e10 f p k + (f (p + k)).toInt64 - 48
    rw [ih (fun j hj => h j (by omega)), h k (by omega)]
theorem rn_le {P : Int32 → Bool} {f : Nat → Int32} {n i : Nat} (h : i ≤ n) : rn P f n i ≤ n := by
  have h1 := rn_RE P f n i
  rcases Nat.lt_or_ge n (rn P f n i) with q | q
  · exact absurd (h1.2.1 n h q).1 (by omega)
  · exact q
theorem tE_le {f : Nat → Int32} {n i : Nat} (h : tP f n i < n) : tE f n i ≤ n := by
  unfold tE
  rw [if_neg (by omega)]
  by_cases q1 : tP f n i < tW f n i
  · rw [if_pos q1]; exact rn_le (by omega)
  · rw [if_neg q1]
    by_cases q2 : tP f n i < tD f n i
    · rw [if_pos q2]; exact rn_le (by omega)
    · rw [if_neg q2]; omega
/-- kinds 0 and 4 have no worth -/
def tV0 (f : Nat → Int32) (n p : Nat) : Int64 := if tK f n p = 1 ∨ tK f n p = 2 ∨ tK f n p = 3 then tV f n p else 0
def TKS (f : Nat → Int32) (n p : Nat) : Int × Int64 × Nat := (tK f n p, tV0 f n p, tP f n (tE f n p))
theorem TKS_cong {f g : Nat → Int32} {n : Nat} (hg : ∀ j : Nat, j < n → g j = f j) : TKS g n = TKS f n := by
  funext p
  have h1 := tP_cong (i := p) hg
  have h2 := tE_cong (i := p) hg
  have h3 := tK_cong (i := p) hg
  have h4 : tV0 g n p = tV0 f n p := by
    unfold tV0
    rw [h3]
    by_cases q : tK f n p = 1 ∨ tK f n p = 2 ∨ tK f n p = 3
    · rw [if_pos q, if_pos q]
      have h5 : tP f n p < n := tK_0 (by omega)
      have h6 := tE_le h5
      have h7 := tE_gt h5
      unfold tV
      rw [h1, h2, h3, hg _ h5, e37_cong _ (fun j hj => hg _ (by omega)), e10_cong _ (fun j hj => hg _ (by omega))]
    · rw [if_neg q, if_neg q]
  show (tK g n p, tV0 g n p, tP g n (tE g n p)) = (tK f n p, tV0 f n p, tP f n (tE f n p))
  rw [h3, h4, h2, tP_cong hg]
theorem PT_TKS {f : Nat → Int32} {n : Nat} (hn : n ≤ 1000) : PT (TKS f n) := fun p h => PT_TT (f := f) hn p h

/-- a word, a sign at a place -/
def nx (T : Nat → Int × Int64 × Nat) (p : Nat) : Nat := (T p).2.2
def isW (T : Nat → Int × Int64 × Nat) (p : Nat) (w : Int64) : Bool := decide ((T p).1 = 1 ∧ (T p).2.1 = w)
def isG (T : Nat → Int × Int64 × Nat) (p : Nat) (c : Int32) : Bool := decide ((T p).1 = 3 ∧ (T p).2.1 = c.toInt64)
def wI (T : Nat → Int × Int64 × Nat) (p : Nat) (w : Int64) : Int := if isW T p w = true then 1 else 0
def gI (T : Nat → Int × Int64 × Nat) (p : Nat) (c : Int32) : Int := if isG T p c = true then 1 else 0
theorem wI_01 (T : Nat → Int × Int64 × Nat) (p : Nat) (w : Int64) : wI T p w = 0 ∨ wI T p w = 1 := by unfold wI; split <;> omega
theorem gI_01 (T : Nat → Int × Int64 × Nat) (p : Nat) (c : Int32) : gI T p c = 0 ∨ gI T p c = 1 := by unfold gI; split <;> omega
theorem wI_1 {T : Nat → Int × Int64 × Nat} {p : Nat} {w : Int64} : wI T p w = 1 ↔ isW T p w = true := by
  unfold wI; constructor
  · intro h; by_cases q : isW T p w = true
    · exact q
    · rw [if_neg q] at h; exact absurd h (by decide)
  · intro h; rw [if_pos h]
theorem gI_1 {T : Nat → Int × Int64 × Nat} {p : Nat} {c : Int32} : gI T p c = 1 ↔ isG T p c = true := by
  unfold gI; constructor
  · intro h; by_cases q : isG T p c = true
    · exact q
    · rw [if_neg q] at h; exact absurd h (by decide)
  · intro h; rw [if_pos h]
theorem wI_0 {T : Nat → Int × Int64 × Nat} {p : Nat} {w : Int64} : wI T p w = 0 ↔ ¬ isW T p w = true := by
  have a := wI_01 T p w
  constructor
  · intro h q; rw [wI_1.mpr q] at h; exact absurd h (by decide)
  · intro h; rcases a with a | a
    · exact a
    · exact absurd (wI_1.mp a) h
theorem gI_0 {T : Nat → Int × Int64 × Nat} {p : Nat} {c : Int32} : gI T p c = 0 ↔ ¬ isG T p c = true := by
  have a := gI_01 T p c
  constructor
  · intro h q; rw [gI_1.mpr q] at h; exact absurd h (by decide)
  · intro h; rcases a with a | a
    · exact a
    · exact absurd (gI_1.mp a) h
/-- the numbers of the language's words -/
def WN (k : Nat) : Int64 := [122704, 16765, 36021578, 27951, 15047032, 716710, 1177493, 209658, 1604747592, 4003641, 172677872, 564588237, 33989651, 932857, 19741, 1891, 573, 17595960, 29203711, 17006, 22955708, 15248761, 40072202].getD k 0
/-- a FAULT; on behind what was right -/
def flt (k : Int) (p : Nat) : Nat × Int := (p, k + 16 * (p : Int))
def bnd (r : Nat × Int) (g : Nat → Nat × Int) : Nat × Int := if r.2 = 0 then g r.1 else r
theorem bnd_ok {r : Nat × Int} {q : Nat} {g : Nat → Nat × Int} (h : r = (q, 0)) : bnd r g = g q := by rw [h]; exact if_pos rfl
theorem bnd_bad {r : Nat × Int} {g : Nat → Nat × Int} (h : ¬ r.2 = 0) : bnd r g = r := if_neg h
def rSign (T : Nat → Int × Int64 × Nat) (c : Int32) (p : Nat) : Nat × Int := if isG T p c = true then (nx T p, 0) else flt 1 p
def rNum (T : Nat → Int × Int64 × Nat) (lo hi : Int) (p : Nat) : Nat × Int := if (T p).1 = 2 then (if lo ≤ (T p).2.1.toInt ∧ (T p).2.1.toInt ≤ hi then (nx T p, 0) else flt 4 p) else flt 1 p
def rAmt (T : Nat → Int × Int64 × Nat) (w : Int64) (lo hi : Int) (p : Nat) : Nat × Int := if isW T p w = true then rNum T lo hi (nx T p) else flt 1 p
/-- a chain of parts -/
def chn (sub : Nat → Nat × Int) (nxt : Nat → Nat) (jn : Nat → Bool) : Nat → Nat × Int → Nat × Int
  | 0, r => r
  | k + 1, r => if r.2 = 0 ∧ jn r.1 = true then chn sub nxt jn k (sub (nxt r.1)) else r
theorem chn_bad {sub : Nat → Nat × Int} {nxt : Nat → Nat} {jn : Nat → Bool} {r : Nat × Int} (h : ¬ r.2 = 0) : ∀ k, chn sub nxt jn k r = r
  | 0 => rfl
  | _ + 1 => if_neg (fun z => h z.1)
theorem chn_end {sub : Nat → Nat × Int} {nxt : Nat → Nat} {jn : Nat → Bool} {r : Nat × Int} (h : ¬ jn r.1 = true) : ∀ k, chn sub nxt jn k r = r
  | 0 => rfl
  | _ + 1 => if_neg (fun z => h z.2)
theorem chn_go {sub : Nat → Nat × Int} {nxt : Nat → Nat} {jn : Nat → Bool} {q : Nat} (h : jn q = true) (k : Nat) : chn sub nxt jn (k + 1) (q, 0) = chn sub nxt jn k (sub (nxt q)) := if_pos ⟨rfl, h⟩
def jnt (T : Nat → Int × Int64 × Nat) (rk p : Nat) : Bool :=
  if rk = 0 then isW T p (WN 15) || isW T p (WN 16) else if rk = 1 then isG T p 60 || isG T p 61 else if rk = 2 then isG T p 43 || isG T p 45 else isG T p 42
def mst (rk : Nat) : Nat := if rk = 1 then 1 else 1000
/-- from a PART, rank 4 - k -/
def rLv (T : Nat → Int × Int64 × Nat) (P : Nat → Nat × Int) : Nat → Nat → Nat × Int
  | 0 => P
  | k + 1 => fun p => chn (rLv T P k) (nx T) (jnt T (3 - k)) (mst (3 - k)) (rLv T P k p)
def isFct (T : Nat → Int × Int64 × Nat) (p : Nat) : Bool := isW T p (WN 17) || isW T p (WN 18) || isW T p (WN 19) || isW T p (WN 7) || isW T p (WN 20) || isW T p (WN 21) || isW T p (WN 1) || isW T p (WN 22)
def canP (T : Nat → Int × Int64 × Nat) (p : Nat) : Bool := decide ((T p).1 = 2) || isFct T p || isG T p 40 || isW T p (WN 14)
def rPt (T : Nat → Int × Int64 × Nat) : Nat → Nat → Nat × Int
  | 0 => fun p => if canP T p = true then flt 5 p else flt 1 p
  | d + 1 => fun p => if canP T p = true then (if isG T p 40 = true then bnd (rLv T (rPt T d) 4 (nx T p)) (rSign T 41) else if isW T p (WN 14) = true then rPt T d (nx T p) else (nx T p, 0)) else flt 1 p
/-- names -/
def noW (v : Int64) : Nat → Bool
  | 0 => true
  | k + 1 => noW v k && !decide (v = WN k)
theorem noW_iff {v : Int64} : ∀ n, noW v n = true ↔ ∀ k, k < n → ¬ v = WN k := by
  intro n
  induction n with
  | zero => exact ⟨fun _ k hk => absurd hk (Nat.not_lt_zero k), fun _ => rfl⟩
  | succ n ih =>
    show (noW v n && !decide (v = WN n)) = true ↔ _
    rw [Bool.and_eq_true, ih]
    constructor
    · rintro ⟨h1, h2⟩ k hk e
      rcases Nat.lt_or_ge k n with q | q
      · exact h1 k q e
      · have ek : k = n := by omega
        rw [ek] at e
        rw [decide_eq_true e] at h2; exact absurd h2 (by decide)
    · intro h
      refine ⟨fun k hk => h k (by omega), ?_⟩
      rw [decide_eq_false (h n (by omega))]; rfl
def isNm (T : Nat → Int × Int64 × Nat) (p : Nat) : Bool := decide ((T p).1 = 1) && noW (T p).2.1 17
theorem isNm_iff {T : Nat → Int × Int64 × Nat} {p : Nat} : isNm T p = true ↔ (T p).1 = 1 ∧ ∀ k, k < 17 → ¬ (T p).2.1 = WN k := by
  unfold isNm; rw [Bool.and_eq_true, decide_eq_true_iff, noW_iff]
def nmI (T : Nat → Int × Int64 × Nat) (p : Nat) : Int := if isNm T p = true then 1 else 0
def fsn (nm : Nat → Int64) (v : Int64) : Nat → Nat → Nat
  | 0, i => i
  | k + 1, i => if nm i = v then i else fsn nm v k (i + 1)
theorem fsn_spec {nm : Nat → Int64} {v : Int64} : ∀ k i, i ≤ fsn nm v k i ∧ fsn nm v k i ≤ i + k ∧ (∀ j, i ≤ j → j < fsn nm v k i → ¬ nm j = v) ∧ (fsn nm v k i < i + k → nm (fsn nm v k i) = v) := by
  intro k
  induction k with
  | zero => intro i; exact ⟨Nat.le_refl _, Nat.le_refl _, fun j h1 h2 => absurd h2 (by show ¬ j < i; omega), fun h => absurd h (by show ¬ i < i + 0; omega)⟩
  | succ k ih =>
    intro i
    by_cases q : nm i = v
    · have e : fsn nm v (k + 1) i = i := if_pos q
      rw [e]; exact ⟨Nat.le_refl _, by omega, fun j h1 h2 => absurd h2 (by omega), fun _ => q⟩
    · have e : fsn nm v (k + 1) i = fsn nm v k (i + 1) := if_neg q
      rw [e]
      obtain ⟨a, b, c, d⟩ := ih (i + 1)
      refine ⟨by omega, by omega, fun j h1 h2 => ?_, fun h => d (by omega)⟩
      rcases Nat.lt_or_ge i j with z | z
      · exact c j (by omega) h2
      · have : j = i := by omega
        rw [this]; exact q
/-- the first of c names that is v; c: none -/
def fnd (nm : Nat → Int64) (c : Nat) (v : Int64) : Nat := fsn nm v c 0
theorem fnd_le {nm : Nat → Int64} {c : Nat} {v : Int64} : fnd nm c v ≤ c := by have := (fsn_spec (nm := nm) (v := v) c 0).2.1; unfold fnd; omega
theorem fnd_eq {nm : Nat → Int64} {c k : Nat} {v : Int64} (h1 : k < c) (h2 : nm k = v) (h3 : ∀ j, j < k → ¬ nm j = v) : fnd nm c v = k := by
  obtain ⟨a, b, x, d⟩ := fsn_spec (nm := nm) (v := v) c 0
  unfold fnd
  rcases Nat.lt_trichotomy (fsn nm v c 0) k with q | q | q
  · exact absurd (d (by omega)) (h3 _ q)
  · exact q
  · exact absurd h2 (x k (by omega) q)
theorem fnd_no {nm : Nat → Int64} {c : Nat} {v : Int64} (h : ∀ j, j < c → ¬ nm j = v) : fnd nm c v = c := by
  obtain ⟨a, b, x, d⟩ := fsn_spec (nm := nm) (v := v) c 0
  unfold fnd
  rcases Nat.lt_or_ge (fsn nm v c 0) c with q | q
  · exact absurd (d (by omega)) (h _ q)
  · omega
/-- what is told so far: names of the wares, how many, names of the shelves, how many, tops, habits, how many nests -/
def rNew (T : Nat → Int × Int64 × Nat) (S : ((Nat → Int64) × Nat × (Nat → Int64) × Nat × (Nat → Bool) × (Nat → Bool) × Nat)) (p : Nat) : Nat × Int := if isNm T p = true then (if fnd S.1 S.2.1 (T p).2.1 < S.2.1 ∨ fnd S.2.2.1 S.2.2.2.1 (T p).2.1 < S.2.2.2.1 then flt 3 p else (nx T p, 0)) else flt 1 p
def rOld (T : Nat → Int × Int64 × Nat) (S : ((Nat → Int64) × Nat × (Nat → Int64) × Nat × (Nat → Bool) × (Nat → Bool) × Nat)) (a : Nat → Bool) (p : Nat) : Nat × Int := if isNm T p = true then (if fnd S.1 S.2.1 (T p).2.1 < S.2.1 then (if a (fnd S.1 S.2.1 (T p).2.1) = true then flt 3 p else (nx T p, 0)) else flt 2 p) else flt 1 p
def rBowl (T : Nat → Int × Int64 × Nat) (S : ((Nat → Int64) × Nat × (Nat → Int64) × Nat × (Nat → Bool) × (Nat → Bool) × Nat)) (p : Nat) : Nat × Int := if 12 ≤ S.2.1 then flt 5 p else bnd (bnd (bnd (bnd (bnd (rNew T S (nx T p)) (rAmt T (WN 6) 1 99)) (rAmt T (WN 7) 1 99)) (rAmt T (WN 8) 1 99)) (rAmt T (WN 9) 0 999)) (rAmt T (WN 10) 0 99)
def rLid (T : Nat → Int × Int64 × Nat) (S : ((Nat → Int64) × Nat × (Nat → Int64) × Nat × (Nat → Bool) × (Nat → Bool) × Nat)) (p : Nat) : Nat × Int := if 12 ≤ S.2.1 then flt 5 p else bnd (bnd (bnd (rNew T S (nx T p)) (rAmt T (WN 6) 1 99)) (rAmt T (WN 8) 1 99)) (rAmt T (WN 10) 0 99)
def rShelf (T : Nat → Int × Int64 × Nat) (S : ((Nat → Int64) × Nat × (Nat → Int64) × Nat × (Nat → Bool) × (Nat → Bool) × Nat)) (p : Nat) : Nat × Int := if 4 ≤ S.2.2.2.1 then flt 5 p else bnd (bnd (bnd (rNew T S (nx T p)) (rAmt T (WN 11) 1 999)) (rAmt T (WN 12) 0 99)) (rAmt T (WN 13) 1 8)
def rTop (T : Nat → Int × Int64 × Nat) (S : ((Nat → Int64) × Nat × (Nat → Int64) × Nat × (Nat → Bool) × (Nat → Bool) × Nat)) (p : Nat) : Nat × Int := rOld T S S.2.2.2.2.1 (nx T p)
def rHab (T : Nat → Int × Int64 × Nat) (S : ((Nat → Int64) × Nat × (Nat → Int64) × Nat × (Nat → Bool) × (Nat → Bool) × Nat)) (p : Nat) : Nat × Int := bnd (rOld T S S.2.2.2.2.2.1 (nx T p)) (rNum T 0 99)
def rNest (T : Nat → Int × Int64 × Nat) (S : ((Nat → Int64) × Nat × (Nat → Int64) × Nat × (Nat → Bool) × (Nat → Bool) × Nat)) (p : Nat) : Nat × Int := if 4 ≤ S.2.2.2.2.2.2 then flt 5 p else rLv T (rPt T 5) 4 (nx T p)
def rLine (T : Nat → Int × Int64 × Nat) (S : ((Nat → Int64) × Nat × (Nat → Int64) × Nat × (Nat → Bool) × (Nat → Bool) × Nat)) (p : Nat) : Nat × Int :=
  if isW T p (WN 0) = true then rBowl T S p else if isW T p (WN 1) = true then rLid T S p else if isW T p (WN 2) = true then rShelf T S p else if isW T p (WN 3) = true then rTop T S p else if isW T p (WN 4) = true then rHab T S p else if isW T p (WN 5) = true then rNest T S p else flt 1 p
def rStm (T : Nat → Int × Int64 × Nat) (S : ((Nat → Int64) × Nat × (Nat → Int64) × Nat × (Nat → Bool) × (Nat → Bool) × Nat)) (p : Nat) : Nat × Int := bnd (rLine T S p) (rSign T 59)
def updB (f : Nat → Bool) (k : Nat) : Nat → Bool := fun j => if j = k then true else f j
/-- what is told behind a statement -/
def sWare (T : Nat → Int × Int64 × Nat) (S : ((Nat → Int64) × Nat × (Nat → Int64) × Nat × (Nat → Bool) × (Nat → Bool) × Nat)) (p : Nat) : ((Nat → Int64) × Nat × (Nat → Int64) × Nat × (Nat → Bool) × (Nat → Bool) × Nat) := (vp_updL S.1 S.2.1 (T (nx T p)).2.1, S.2.1 + 1, S.2.2)
def sShelf (T : Nat → Int × Int64 × Nat) (S : ((Nat → Int64) × Nat × (Nat → Int64) × Nat × (Nat → Bool) × (Nat → Bool) × Nat)) (p : Nat) : ((Nat → Int64) × Nat × (Nat → Int64) × Nat × (Nat → Bool) × (Nat → Bool) × Nat) := (S.1, S.2.1, vp_updL S.2.2.1 S.2.2.2.1 (T (nx T p)).2.1, S.2.2.2.1 + 1, S.2.2.2.2)
def sTop (T : Nat → Int × Int64 × Nat) (S : ((Nat → Int64) × Nat × (Nat → Int64) × Nat × (Nat → Bool) × (Nat → Bool) × Nat)) (p : Nat) : ((Nat → Int64) × Nat × (Nat → Int64) × Nat × (Nat → Bool) × (Nat → Bool) × Nat) := (S.1, S.2.1, S.2.2.1, S.2.2.2.1, updB S.2.2.2.2.1 (fnd S.1 S.2.1 (T (nx T p)).2.1), S.2.2.2.2.2)
def sHab (T : Nat → Int × Int64 × Nat) (S : ((Nat → Int64) × Nat × (Nat → Int64) × Nat × (Nat → Bool) × (Nat → Bool) × Nat)) (p : Nat) : ((Nat → Int64) × Nat × (Nat → Int64) × Nat × (Nat → Bool) × (Nat → Bool) × Nat) := (S.1, S.2.1, S.2.2.1, S.2.2.2.1, S.2.2.2.2.1, updB S.2.2.2.2.2.1 (fnd S.1 S.2.1 (T (nx T p)).2.1), S.2.2.2.2.2.2)
def sNest (S : ((Nat → Int64) × Nat × (Nat → Int64) × Nat × (Nat → Bool) × (Nat → Bool) × Nat)) : ((Nat → Int64) × Nat × (Nat → Int64) × Nat × (Nat → Bool) × (Nat → Bool) × Nat) := (S.1, S.2.1, S.2.2.1, S.2.2.2.1, S.2.2.2.2.1, S.2.2.2.2.2.1, S.2.2.2.2.2.2 + 1)
def sLine (T : Nat → Int × Int64 × Nat) (S : ((Nat → Int64) × Nat × (Nat → Int64) × Nat × (Nat → Bool) × (Nat → Bool) × Nat)) (p : Nat) : ((Nat → Int64) × Nat × (Nat → Int64) × Nat × (Nat → Bool) × (Nat → Bool) × Nat) :=
  if isW T p (WN 0) = true then sWare T S p else if isW T p (WN 1) = true then sWare T S p else if isW T p (WN 2) = true then sShelf T S p else if isW T p (WN 3) = true then sTop T S p else if isW T p (WN 4) = true then sHab T S p else sNest S
/-- the FAULT of all -/
def rAll (T : Nat → Int × Int64 × Nat) : Nat → ((Nat → Int64) × Nat × (Nat → Int64) × Nat × (Nat → Bool) × (Nat → Bool) × Nat) → Nat → Int
  | 0, _, _ => 0
  | k + 1, S, p => if (T p).1 = 0 then 0 else if (rStm T S p).2 = 0 then rAll T k (sLine T S p) (rStm T S p).1 else (rStm T S p).2
def S0 : ((Nat → Int64) × Nat × (Nat → Int64) × Nat × (Nat → Bool) × (Nat → Bool) × Nat) := (fun _ => 0, 0, fun _ => 0, 0, fun _ => false, fun _ => false, 0)
def cup (f : Nat → Int32) (n : Nat) : Int := rAll (TKS f n) 1000 S0 (tP f n 0)
theorem cup_cong {f g : Nat → Int32} {n : Nat} (hg : ∀ j : Nat, j < n → g j = f j) : cup g n = cup f n := by unfold cup; rw [TKS_cong hg, tP_cong hg]
theorem rAll_end {T : Nat → Int × Int64 × Nat} {S : ((Nat → Int64) × Nat × (Nat → Int64) × Nat × (Nat → Bool) × (Nat → Bool) × Nat)} {p : Nat} (h : (T p).1 = 0) : ∀ k, rAll T k S p = 0
  | 0 => rfl
  | _ + 1 => if_pos h
theorem rAll_ok {T : Nat → Int × Int64 × Nat} {S : ((Nat → Int64) × Nat × (Nat → Int64) × Nat × (Nat → Bool) × (Nat → Bool) × Nat)} {p q : Nat} {k : Nat} (h : ¬ (T p).1 = 0) (h2 : rStm T S p = (q, 0)) : rAll T (k + 1) S p = rAll T k (sLine T S p) q := by
  show (if (T p).1 = 0 then 0 else if (rStm T S p).2 = 0 then rAll T k (sLine T S p) (rStm T S p).1 else (rStm T S p).2) = _
  rw [if_neg h, h2]; exact if_pos rfl
theorem rAll_bad {T : Nat → Int × Int64 × Nat} {S : ((Nat → Int64) × Nat × (Nat → Int64) × Nat × (Nat → Bool) × (Nat → Bool) × Nat)} {p : Nat} {k : Nat} (h : ¬ (T p).1 = 0) (h2 : ¬ (rStm T S p).2 = 0) : rAll T (k + 1) S p = (rStm T S p).2 := by
  show (if (T p).1 = 0 then 0 else if (rStm T S p).2 = 0 then rAll T k (sLine T S p) (rStm T S p).1 else (rStm T S p).2) = _
  rw [if_neg h, if_neg h2]

theorem flt_ne {k : Int} {p : Nat} (h : 1 ≤ k) : ¬ (flt k p).2 = 0 := by show ¬ k + 16 * (p : Int) = 0; omega
theorem isW_gt {T : Nat → Int × Int64 × Nat} (hT : PT T) {p : Nat} {w : Int64} (h : isW T p w = true) : p < 1000 ∧ p < nx T p := hT p (by rw [(of_decide_eq_true h).1]; decide)
theorem isG_gt {T : Nat → Int × Int64 × Nat} (hT : PT T) {p : Nat} {c : Int32} (h : isG T p c = true) : p < 1000 ∧ p < nx T p := hT p (by rw [(of_decide_eq_true h).1]; decide)
theorem isNm_gt {T : Nat → Int × Int64 × Nat} (hT : PT T) {p : Nat} (h : isNm T p = true) : p < 1000 ∧ p < nx T p := hT p (by rw [(isNm_iff.mp h).1]; decide)
theorem jnt_gt {T : Nat → Int × Int64 × Nat} (hT : PT T) {rk p : Nat} (h : jnt T rk p = true) : p < 1000 ∧ p < nx T p := by
  unfold jnt at h
  by_cases q0 : rk = 0
  · rw [if_pos q0, Bool.or_eq_true] at h
    exact h.elim (isW_gt hT) (isW_gt hT)
  · rw [if_neg q0] at h
    by_cases q1 : rk = 1
    · rw [if_pos q1, Bool.or_eq_true] at h
      exact h.elim (isG_gt hT) (isG_gt hT)
    · rw [if_neg q1] at h
      by_cases q2 : rk = 2
      · rw [if_pos q2, Bool.or_eq_true] at h
        exact h.elim (isG_gt hT) (isG_gt hT)
      · rw [if_neg q2] at h
        exact isG_gt hT h
theorem canP_gt {T : Nat → Int × Int64 × Nat} (hT : PT T) {p : Nat} (h : canP T p = true) : p < 1000 ∧ p < nx T p := by
  unfold canP isFct at h
  simp only [Bool.or_eq_true] at h
  rcases h with ((h | h) | h) | h
  · exact hT p (by rw [of_decide_eq_true h]; decide)
  · rcases h with ((((((h | h) | h) | h) | h) | h) | h) | h <;> exact isW_gt hT h
  · exact isG_gt hT h
  · exact isW_gt hT h
theorem chn_ok {sub : Nat → Nat × Int} {nxt : Nat → Nat} {jn : Nat → Bool} {k : Nat} {r : Nat × Int} (h : (chn sub nxt jn k r).2 = 0) : r.2 = 0 := by
  by_cases q : r.2 = 0
  · exact q
  · rw [chn_bad q] at h; exact absurd h q
theorem chn_gt {sub : Nat → Nat × Int} {nxt : Nat → Nat} {jn : Nat → Bool} (hs : ∀ q, (sub q).2 = 0 → q < (sub q).1) (hn : ∀ q, jn q = true → q < nxt q) : ∀ k r, (chn sub nxt jn k r).2 = 0 → r.1 ≤ (chn sub nxt jn k r).1 := by
  intro k
  induction k with
  | zero => intro r _; exact Nat.le_refl _
  | succ k ih =>
    intro r h
    by_cases q : r.2 = 0 ∧ jn r.1 = true
    · have e : chn sub nxt jn (k + 1) r = chn sub nxt jn k (sub (nxt r.1)) := if_pos q
      rw [e] at h ⊢
      have a := ih _ h
      have b := hs _ (chn_ok h)
      have c := hn _ q.2
      omega
    · have e : chn sub nxt jn (k + 1) r = r := if_neg q
      rw [e]; exact Nat.le_refl _
theorem rLv_gt {T : Nat → Int × Int64 × Nat} (hT : PT T) {P : Nat → Nat × Int} (hP : ∀ q, (P q).2 = 0 → q < (P q).1) : ∀ k p, (rLv T P k p).2 = 0 → p < (rLv T P k p).1 := by
  intro k
  induction k with
  | zero => exact hP
  | succ k ih =>
    intro p h
    have h' : (chn (rLv T P k) (nx T) (jnt T (3 - k)) (mst (3 - k)) (rLv T P k p)).2 = 0 := h
    show p < (chn (rLv T P k) (nx T) (jnt T (3 - k)) (mst (3 - k)) (rLv T P k p)).1
    have a := ih p (chn_ok h')
    have b := chn_gt (jn := jnt T (3 - k)) ih (fun q z => (jnt_gt hT z).2) _ _ h'
    omega
theorem bnd_gt {r : Nat × Int} {g : Nat → Nat × Int} {p : Nat} (h1 : r.2 = 0 → p < r.1) (h2 : ∀ q, (g q).2 = 0 → q < (g q).1) (h : (bnd r g).2 = 0) : p < (bnd r g).1 := by
  unfold bnd at h ⊢
  by_cases q : r.2 = 0
  · rw [if_pos q] at h ⊢
    have a := h1 q
    have b := h2 _ h
    omega
  · rw [if_neg q] at h; exact absurd h q
theorem rSign_gt {T : Nat → Int × Int64 × Nat} (hT : PT T) {c : Int32} (p : Nat) (h : (rSign T c p).2 = 0) : p < (rSign T c p).1 := by
  unfold rSign at h ⊢
  by_cases q : isG T p c = true
  · rw [if_pos q]; exact (isG_gt hT q).2
  · rw [if_neg q] at h; exact absurd h (flt_ne (by decide))
theorem rPt_gt {T : Nat → Int × Int64 × Nat} (hT : PT T) : ∀ d p, (rPt T d p).2 = 0 → p < (rPt T d p).1 := by
  intro d
  induction d with
  | zero =>
    intro p h
    have h' : (if canP T p = true then flt 5 p else flt 1 p).2 = 0 := h
    by_cases q : canP T p = true
    · rw [if_pos q] at h'; exact absurd h' (flt_ne (by decide))
    · rw [if_neg q] at h'; exact absurd h' (flt_ne (by decide))
  | succ d ih =>
    intro p h
    have e : rPt T (d + 1) p = (if canP T p = true then (if isG T p 40 = true then bnd (rLv T (rPt T d) 4 (nx T p)) (rSign T 41) else if isW T p (WN 14) = true then rPt T d (nx T p) else (nx T p, 0)) else flt 1 p) := rfl
    rw [e] at h ⊢
    by_cases q : canP T p = true
    · rw [if_pos q] at h ⊢
      have g := (canP_gt hT q).2
      by_cases q1 : isG T p 40 = true
      · rw [if_pos q1] at h ⊢
        exact bnd_gt (fun z => by have := rLv_gt hT ih 4 _ z; omega) (rSign_gt hT) h
      · rw [if_neg q1] at h ⊢
        by_cases q2 : isW T p (WN 14) = true
        · rw [if_pos q2] at h ⊢
          have := ih _ h; omega
        · rw [if_neg q2]; exact g
    · rw [if_neg q] at h; exact absurd h (flt_ne (by decide))
theorem rNum_gt {T : Nat → Int × Int64 × Nat} (hT : PT T) {lo hi : Int} (p : Nat) (h : (rNum T lo hi p).2 = 0) : p < (rNum T lo hi p).1 := by
  unfold rNum at h ⊢
  by_cases q : (T p).1 = 2
  · rw [if_pos q] at h ⊢
    by_cases q1 : lo ≤ (T p).2.1.toInt ∧ (T p).2.1.toInt ≤ hi
    · rw [if_pos q1]; exact (hT p (by rw [q]; decide)).2
    · rw [if_neg q1] at h; exact absurd h (flt_ne (by decide))
  · rw [if_neg q] at h; exact absurd h (flt_ne (by decide))
theorem rAmt_gt {T : Nat → Int × Int64 × Nat} (hT : PT T) {w : Int64} {lo hi : Int} (p : Nat) (h : (rAmt T w lo hi p).2 = 0) : p < (rAmt T w lo hi p).1 := by
  unfold rAmt at h ⊢
  by_cases q : isW T p w = true
  · rw [if_pos q] at h ⊢
    have a := rNum_gt hT _ h
    have b := (isW_gt hT q).2
    omega
  · rw [if_neg q] at h; exact absurd h (flt_ne (by decide))
theorem rNew_gt {T : Nat → Int × Int64 × Nat} (hT : PT T) {S : ((Nat → Int64) × Nat × (Nat → Int64) × Nat × (Nat → Bool) × (Nat → Bool) × Nat)} (p : Nat) (h : (rNew T S p).2 = 0) : p < (rNew T S p).1 := by
  unfold rNew at h ⊢
  by_cases q : isNm T p = true
  · rw [if_pos q] at h ⊢
    by_cases q1 : fnd S.1 S.2.1 (T p).2.1 < S.2.1 ∨ fnd S.2.2.1 S.2.2.2.1 (T p).2.1 < S.2.2.2.1
    · rw [if_pos q1] at h; exact absurd h (flt_ne (by decide))
    · rw [if_neg q1]; exact (isNm_gt hT q).2
  · rw [if_neg q] at h; exact absurd h (flt_ne (by decide))
theorem rOld_gt {T : Nat → Int × Int64 × Nat} (hT : PT T) {S : ((Nat → Int64) × Nat × (Nat → Int64) × Nat × (Nat → Bool) × (Nat → Bool) × Nat)} {a : Nat → Bool} (p : Nat) (h : (rOld T S a p).2 = 0) : p < (rOld T S a p).1 := by
  unfold rOld at h ⊢
  by_cases q : isNm T p = true
  · rw [if_pos q] at h ⊢
    by_cases q1 : fnd S.1 S.2.1 (T p).2.1 < S.2.1
    · rw [if_pos q1] at h ⊢
      by_cases q2 : a (fnd S.1 S.2.1 (T p).2.1) = true
      · rw [if_pos q2] at h; exact absurd h (flt_ne (by decide))
      · rw [if_neg q2]; exact (isNm_gt hT q).2
    · rw [if_neg q1] at h; exact absurd h (flt_ne (by decide))
  · rw [if_neg q] at h; exact absurd h (flt_ne (by decide))
theorem rLine_gt {T : Nat → Int × Int64 × Nat} (hT : PT T) {S : ((Nat → Int64) × Nat × (Nat → Int64) × Nat × (Nat → Bool) × (Nat → Bool) × Nat)} (p : Nat) (h : (rLine T S p).2 = 0) : p < (rLine T S p).1 := by
  unfold rLine at h ⊢
  by_cases q0 : isW T p (WN 0) = true
  · rw [if_pos q0] at h ⊢
    have g := (isW_gt hT q0).2
    unfold rBowl at h ⊢
    by_cases q : 12 ≤ S.2.1
    · rw [if_pos q] at h; exact absurd h (flt_ne (by decide))
    · rw [if_neg q] at h ⊢
      exact bnd_gt (bnd_gt (bnd_gt (bnd_gt (bnd_gt (fun z => by have := rNew_gt hT _ z; omega) (rAmt_gt hT)) (rAmt_gt hT)) (rAmt_gt hT)) (rAmt_gt hT)) (rAmt_gt hT) h
  · rw [if_neg q0] at h ⊢
    by_cases q1 : isW T p (WN 1) = true
    · rw [if_pos q1] at h ⊢
      have g := (isW_gt hT q1).2
      unfold rLid at h ⊢
      by_cases q : 12 ≤ S.2.1
      · rw [if_pos q] at h; exact absurd h (flt_ne (by decide))
      · rw [if_neg q] at h ⊢
        exact bnd_gt (bnd_gt (bnd_gt (fun z => by have := rNew_gt hT _ z; omega) (rAmt_gt hT)) (rAmt_gt hT)) (rAmt_gt hT) h
    · rw [if_neg q1] at h ⊢
      by_cases q2 : isW T p (WN 2) = true
      · rw [if_pos q2] at h ⊢
        have g := (isW_gt hT q2).2
        unfold rShelf at h ⊢
        by_cases q : 4 ≤ S.2.2.2.1
        · rw [if_pos q] at h; exact absurd h (flt_ne (by decide))
        · rw [if_neg q] at h ⊢
          exact bnd_gt (bnd_gt (bnd_gt (fun z => by have := rNew_gt hT _ z; omega) (rAmt_gt hT)) (rAmt_gt hT)) (rAmt_gt hT) h
      · rw [if_neg q2] at h ⊢
        by_cases q3 : isW T p (WN 3) = true
        · rw [if_pos q3] at h ⊢
          have g := (isW_gt hT q3).2
          have := rOld_gt hT _ h
          show p < (rOld T S S.2.2.2.2.1 (nx T p)).1
          omega
        · rw [if_neg q3] at h ⊢
          by_cases q4 : isW T p (WN 4) = true
          · rw [if_pos q4] at h ⊢
            have g := (isW_gt hT q4).2
            exact bnd_gt (fun z => by have := rOld_gt hT _ z; omega) (rNum_gt hT) h
          · rw [if_neg q4] at h ⊢
            by_cases q5 : isW T p (WN 5) = true
            · rw [if_pos q5] at h ⊢
              have g := (isW_gt hT q5).2
              unfold rNest at h ⊢
              by_cases q : 4 ≤ S.2.2.2.2.2.2
              · rw [if_pos q] at h; exact absurd h (flt_ne (by decide))
              · rw [if_neg q] at h ⊢
                have := rLv_gt hT (rPt_gt hT 5) 4 _ h
                omega
            · rw [if_neg q5] at h; exact absurd h (flt_ne (by decide))
theorem rStm_gt {T : Nat → Int × Int64 × Nat} (hT : PT T) {S : ((Nat → Int64) × Nat × (Nat → Int64) × Nat × (Nat → Bool) × (Nat → Bool) × Nat)} (p : Nat) (h : (rStm T S p).2 = 0) : p < (rStm T S p).1 := bnd_gt (rLine_gt hT p) (rSign_gt hT) h

/-- the literal as a word; a stretch of the text is the literal -/
def wnL (i : Nat) : Int64 := e37 (sB i) 0 (sL i)
def WD (f : Nat → Int32) (p e i : Nat) : Prop := e = p + sL i ∧ ∀ j : Nat, j < sL i → (f (p + j)).toInt = (sB i j).toInt
def wLit (i : Nat) : Prop := 2 ≤ i ∧ ¬ i = 25 ∧ i < 43
theorem lit_LT8_all : ∀ i, i < 43 → (i < 2 ∨ i = 25 ∨ sL i ≤ 8 ∧ ∀ j, j < 8 → (sL i ≤ j ∨ 97 ≤ (sB i j).toInt ∧ (sB i j).toInt ≤ 122)) := by decide +kernel
theorem lit_LT8 {i : Nat} (h : wLit i) : LT8 (sB i) 0 (sL i) := by
  have a : sL i ≤ 8 ∧ ∀ j, j < 8 → (sL i ≤ j ∨ 97 ≤ (sB i j).toInt ∧ (sB i j).toInt ≤ 122) := by
    rcases lit_LT8_all i h.2.2 with q | q | q
    · exact absurd h.1 (by omega)
    · exact absurd q h.2.1
    · exact q
  refine ⟨a.1, fun j hj => ?_⟩
  rw [Nat.zero_add]
  rcases a.2 j (by omega) with q | q
  · omega
  · exact q
theorem WD_iff {f : Nat → Int32} {p e i : Nat} (hp : p ≤ e) (hl : LT8 f p (e - p)) (hi : wLit i) : WD f p e i ↔ e37 f p (e - p) = wnL i := by
  have h2 := lit_LT8 hi
  refine Iff.trans ?_ (e37_same hl h2).symm
  constructor
  · rintro ⟨h3, h4⟩
    refine ⟨by omega, fun j hj => ?_⟩
    have := h4 j (by omega)
    unfold dgt; rw [Nat.zero_add, this]
  · rintro ⟨h3, h4⟩
    refine ⟨by omega, fun j hj => ?_⟩
    have a := h4 j (by omega)
    have b := hl.2 j (by omega)
    have c := h2.2 j hj
    unfold dgt at a; rw [Nat.zero_add] at a c; omega
/-- the class's tape has the token of its place at hand -/
def TH (f : Nat → Int32) (n : Nat) (ne kd pl nu : Int) : Prop := tP f n pl.toNat = pl.toNat ∧ ne = ((tE f n pl.toNat : Nat) : Int) ∧ kd = tK f n pl.toNat ∧ (kd = 2 → nu = nV f pl.toNat (tE f n pl.toNat - pl.toNat) ∧ 0 ≤ nu ∧ nu ≤ 9999)
theorem TH.mk' {f : Nat → Int32} {n i : Nat} {ne kd pl nu : Int} (h1 : pl.toNat = tP f n i) (h2 : ne = ((tE f n i : Nat) : Int)) (h3 : kd = tK f n i) (h4 : kd = 2 → nu = nV f (tP f n i) (tE f n i - tP f n i)) : TH f n ne kd pl nu := by
  refine ⟨by rw [h1, tPP], by rw [h1, tE_P]; exact h2, by rw [h1, tK_P]; exact h3, fun q => ?_⟩
  rw [h1, tE_P]
  have a := h4 q
  have b := tK_dig (h3.symm.trans q)
  have c := e10_nV _ b.1 b.2
  have d : 10 ^ (tE f n i - tP f n i) ≤ 10 ^ 4 := Nat.pow_le_pow_right (by decide) b.1
  have e : (10 : Nat) ^ 4 = 10000 := by decide
  exact ⟨a, by omega, by omega⟩
theorem TH.kind {f : Nat → Int32} {n : Nat} {ne kd pl nu : Int} (h : TH f n ne kd pl nu) : (TKS f n pl.toNat).1 = kd := h.2.2.1.symm
theorem TH.adv {f : Nat → Int32} {n : Nat} {ne kd pl nu : Int} (h : TH f n ne kd pl nu) : tP f n ne.toNat = nx (TKS f n) pl.toNat := by
  show _ = tP f n (tE f n pl.toNat)
  rw [h.2.1, Int.toNat_natCast]
theorem TH.num {f : Nat → Int32} {n : Nat} {ne kd pl nu : Int} (h : TH f n ne kd pl nu) (hk : kd = 2) : (TKS f n pl.toNat).2.1.toInt = nu := by
  have k2 : tK f n pl.toNat = 2 := h.2.2.1.symm.trans hk
  have b := tK_dig k2
  show (tV0 f n pl.toNat).toInt = nu
  unfold tV0 tV
  rw [k2, if_pos (Or.inr (Or.inl rfl)), if_neg (by decide), if_pos rfl, (e10_nV _ b.1 b.2).1, h.1]
  exact (h.2.2.2 hk).1.symm
theorem TH.wval {f : Nat → Int32} {n : Nat} {ne kd pl nu : Int} (h : TH f n ne kd pl nu) (hk : kd = 1) : (TKS f n pl.toNat).2.1 = e37 f pl.toNat (ne.toNat - pl.toNat) ∧ LT8 f pl.toNat (ne.toNat - pl.toNat) ∧ pl.toNat ≤ ne.toNat := by
  have k1 : tK f n pl.toNat = 1 := h.2.2.1.symm.trans hk
  have b := tK_LT8 k1
  have c := tK_1 k1
  have e : ne.toNat = tE f n pl.toNat := by rw [h.2.1, Int.toNat_natCast]
  rw [h.1] at b c
  rw [e]
  refine ⟨?_, b, by omega⟩
  show tV0 f n pl.toNat = _
  unfold tV0 tV
  rw [k1, if_pos (Or.inl rfl), if_pos rfl, h.1]
theorem TH.word {f : Nat → Int32} {n : Nat} {ne kd pl nu : Int} (h : TH f n ne kd pl nu) {i : Nat} (hi : wLit i) : (kd = 1 ∧ WD f pl.toNat ne.toNat i) ↔ isW (TKS f n) pl.toNat (wnL i) = true := by
  unfold isW
  rw [decide_eq_true_iff, h.kind]
  constructor
  · rintro ⟨h1, h2⟩
    obtain ⟨a, b, c⟩ := h.wval h1
    exact ⟨h1, a.trans ((WD_iff c b hi).mp h2)⟩
  · rintro ⟨h1, h2⟩
    obtain ⟨a, b, c⟩ := h.wval h1
    exact ⟨h1, (WD_iff c b hi).mpr (a.symm.trans h2)⟩
theorem i64_inj {a b : Int32} : a.toInt64 = b.toInt64 ↔ a = b := by
  constructor
  · intro h
    have := congrArg Int64.toInt h
    rw [Int32.toInt_toInt64, Int32.toInt_toInt64] at this
    exact (i_eq _ _).mpr this
  · intro h; rw [h]
theorem TH.sign {f : Nat → Int32} {n : Nat} {ne kd pl nu : Int} (h : TH f n ne kd pl nu) {c : Int32} : (kd = 3 ∧ f pl.toNat = c) ↔ isG (TKS f n) pl.toNat c = true := by
  unfold isG
  rw [decide_eq_true_iff, h.kind]
  have e : kd = 3 → (TKS f n pl.toNat).2.1 = (f pl.toNat).toInt64 := fun hk => by
    have k3 : tK f n pl.toNat = 3 := h.2.2.1.symm.trans hk
    show tV0 f n pl.toNat = _
    unfold tV0 tV
    rw [k3, if_pos (Or.inr (Or.inr rfl)), if_neg (by decide), if_neg (by decide), h.1]
  constructor
  · rintro ⟨h1, h2⟩; exact ⟨h1, by rw [e h1, h2]⟩
  · rintro ⟨h1, h2⟩; exact ⟨h1, i64_inj.mp ((e h1).symm.trans h2)⟩
theorem TH.name {f : Nat → Int32} {n : Nat} {ne kd pl nu : Int} (h : TH f n ne kd pl nu) (hk : kd = 1) : NMR (e32 f pl.toNat (ne.toNat - pl.toNat)) (TKS f n pl.toNat).2.1 := by
  obtain ⟨a, b, c⟩ := h.wval hk
  exact ⟨f, pl.toNat, ne.toNat - pl.toNat, b, rfl, a⟩
/-- what a method of the class's reader answers, and the pure one -/
def CP (ret pl fa fa0 : Int) (r : Nat × Int) : Prop := (ret = 1 → r = (pl.toNat, 0) ∧ fa = fa0) ∧ (ret = 0 → r.2 = fa ∧ ¬ r.2 = 0)
theorem CP.wr {ret pl fa fa0 k : Int} (hr : ret = 0) (h : fa = k + 16 * pl) (h0 : 0 ≤ pl) (hk : 1 ≤ k) : CP ret pl fa fa0 (flt k pl.toNat) := ⟨fun z => absurd (hr.symm.trans z) (by decide), fun _ => ⟨by show k + 16 * ((pl.toNat : Nat) : Int) = fa; omega, flt_ne hk⟩⟩
theorem CP.ok {ret pl fa fa0 : Int} {r : Nat × Int} (hr : ret = 1) (hf : fa = fa0) (h : r = (pl.toNat, 0)) : CP ret pl fa fa0 r := ⟨fun _ => ⟨h, hf⟩, fun z => absurd (hr.symm.trans z) (by decide)⟩
theorem CP.bad {ret pl fa fa0 : Int} {r : Nat × Int} (hr : ret = 0) (h : r.2 = fa ∧ ¬ r.2 = 0) : CP ret pl fa fa0 r := ⟨fun z => absurd (hr.symm.trans z) (by decide), fun _ => h⟩
theorem CP.mv {ret pl fa fa0 : Int} {r r' : Nat × Int} (h : CP ret pl fa fa0 r) (e : r' = r) : CP ret pl fa fa0 r' := e ▸ h
/-- a chain under way: k joints may still come -/
def CH (T : Nat → Int × Int64 × Nat) (sub : Nat → Nat × Int) (jn : Nat → Bool) (k : Nat) (ret pl fa fa0 : Int) (R : Nat × Int) : Prop := (ret = 1 → chn sub (nx T) jn k (pl.toNat, 0) = R ∧ fa = fa0) ∧ (ret = 0 → R.2 = fa ∧ ¬ R.2 = 0)
theorem CH.start {T : Nat → Int × Int64 × Nat} {sub : Nat → Nat × Int} {jn : Nat → Bool} {k : Nat} {ret pl fa fa0 : Int} {r : Nat × Int} (h : CP ret pl fa fa0 r) : CH T sub jn k ret pl fa fa0 (chn sub (nx T) jn k r) := ⟨fun z => ⟨by rw [(h.1 z).1], (h.1 z).2⟩, fun z => by rw [chn_bad (h.2 z).2]; exact h.2 z⟩
theorem CH.step {T : Nat → Int × Int64 × Nat} {sub : Nat → Nat × Int} {jn : Nat → Bool} {k : Nat} {ret pl fa fa0 ret' pl' fa' : Int} {R : Nat × Int} {q : Nat} (h : CH T sub jn (k + 1) ret pl fa fa0 R) (h1 : ret = 1) (hj : jn pl.toNat = true) (hq : q = nx T pl.toNat) (h2 : CP ret' pl' fa' fa (sub q)) : CH T sub jn k ret' pl' fa' fa0 R := by
  have e := (h.1 h1).1
  rw [chn_go hj, ← hq] at e
  rw [← e, ← (h.1 h1).2]; exact CH.start h2
theorem CH.stop {T : Nat → Int × Int64 × Nat} {sub : Nat → Nat × Int} {jn : Nat → Bool} {k : Nat} {ret pl fa fa0 : Int} {R : Nat × Int} (h : CH T sub jn k ret pl fa fa0 R) (hj : ret = 1 → k = 0 ∨ ¬ jn pl.toNat = true) : CP ret pl fa fa0 R := ⟨fun z => by
  have e := (h.1 z).1
  refine ⟨?_, (h.1 z).2⟩
  rcases hj z with q | q
  · rw [q] at e; exact e.symm
  · rw [chn_end (r := (pl.toNat, 0)) q] at e; exact e.symm, h.2⟩
theorem rLv1 {T : Nat → Int × Int64 × Nat} {P : Nat → Nat × Int} {p : Nat} : rLv T P 1 p = chn (rLv T P 0) (nx T) (jnt T 3) 1000 (rLv T P 0 p) := rfl
theorem rLv2 {T : Nat → Int × Int64 × Nat} {P : Nat → Nat × Int} {p : Nat} : rLv T P 2 p = chn (rLv T P 1) (nx T) (jnt T 2) 1000 (rLv T P 1 p) := rfl
theorem rLv3 {T : Nat → Int × Int64 × Nat} {P : Nat → Nat × Int} {p : Nat} : rLv T P 3 p = chn (rLv T P 2) (nx T) (jnt T 1) 1 (rLv T P 2 p) := rfl
theorem rLv4 {T : Nat → Int × Int64 × Nat} {P : Nat → Nat × Int} {p : Nat} : rLv T P 4 p = chn (rLv T P 3) (nx T) (jnt T 0) 1000 (rLv T P 3 p) := rfl
theorem rLv0 {T : Nat → Int × Int64 × Nat} {P : Nat → Nat × Int} {p : Nat} : rLv T P 0 p = P p := rfl
theorem rPt_s {T : Nat → Int × Int64 × Nat} {d p : Nat} : rPt T (d + 1) p = (if canP T p = true then (if isG T p 40 = true then bnd (rLv T (rPt T d) 4 (nx T p)) (rSign T 41) else if isW T p (WN 14) = true then rPt T d (nx T p) else (nx T p, 0)) else flt 1 p) := rfl
theorem rPt_0 {T : Nat → Int × Int64 × Nat} {p : Nat} : rPt T 0 p = (if canP T p = true then flt 5 p else flt 1 p) := rfl
theorem isFct_iff {T : Nat → Int × Int64 × Nat} {p : Nat} : isFct T p = true ↔ (wI T p (WN 17) = 1 ∨ wI T p (WN 18) = 1 ∨ wI T p (WN 19) = 1 ∨ wI T p (WN 7) = 1 ∨ wI T p (WN 20) = 1 ∨ wI T p (WN 21) = 1 ∨ wI T p (WN 1) = 1 ∨ wI T p (WN 22) = 1) := by
  unfold isFct
  simp only [Bool.or_eq_true, wI_1, or_assoc]
theorem canP_iff {T : Nat → Int × Int64 × Nat} {p : Nat} : canP T p = true ↔ ((T p).1 = 2 ∨ isFct T p = true ∨ gI T p 40 = 1 ∨ wI T p (WN 14) = 1) := by
  unfold canP
  simp only [Bool.or_eq_true, decide_eq_true_eq, wI_1, gI_1, or_assoc]
theorem jnt0 {T : Nat → Int × Int64 × Nat} {p : Nat} : jnt T 0 p = true ↔ (wI T p (WN 15) = 1 ∨ wI T p (WN 16) = 1) := by
  unfold jnt; rw [if_pos rfl]; simp only [Bool.or_eq_true, wI_1]
theorem jnt1 {T : Nat → Int × Int64 × Nat} {p : Nat} : jnt T 1 p = true ↔ (gI T p 60 = 1 ∨ gI T p 61 = 1) := by
  unfold jnt; rw [if_neg (by decide), if_pos rfl]; simp only [Bool.or_eq_true, gI_1]
theorem jnt2 {T : Nat → Int × Int64 × Nat} {p : Nat} : jnt T 2 p = true ↔ (gI T p 43 = 1 ∨ gI T p 45 = 1) := by
  unfold jnt; rw [if_neg (by decide), if_neg (by decide), if_pos rfl]; simp only [Bool.or_eq_true, gI_1]
theorem jnt3 {T : Nat → Int × Int64 × Nat} {p : Nat} : jnt T 3 p = true ↔ gI T p 42 = 1 := by
  unfold jnt; rw [if_neg (by decide), if_neg (by decide), if_neg (by decide)]; exact gI_1.symm
theorem nmI_1 {T : Nat → Int × Int64 × Nat} {p : Nat} : nmI T p = 1 ↔ isNm T p = true := by
  unfold nmI; constructor
  · intro h; by_cases q : isNm T p = true
    · exact q
    · rw [if_neg q] at h; exact absurd h (by decide)
  · intro h; rw [if_pos h]
theorem nmI_0 {T : Nat → Int × Int64 × Nat} {p : Nat} : nmI T p = 0 ↔ ¬ isNm T p = true := by
  unfold nmI; constructor
  · intro h q; rw [if_pos q] at h; exact absurd h (by decide)
  · intro h; rw [if_neg h]
theorem nm_1 {T : Nat → Int × Int64 × Nat} {p : Nat} (hk : (T p).1 = 1) (h : wI T p (WN 0) = 0 ∧ wI T p (WN 1) = 0 ∧ wI T p (WN 2) = 0 ∧ wI T p (WN 3) = 0 ∧ wI T p (WN 4) = 0 ∧ wI T p (WN 5) = 0 ∧ wI T p (WN 6) = 0 ∧ wI T p (WN 7) = 0 ∧ wI T p (WN 8) = 0 ∧ wI T p (WN 9) = 0 ∧ wI T p (WN 10) = 0 ∧ wI T p (WN 11) = 0 ∧ wI T p (WN 12) = 0 ∧ wI T p (WN 13) = 0 ∧ wI T p (WN 14) = 0 ∧ wI T p (WN 15) = 0 ∧ wI T p (WN 16) = 0) : nmI T p = 1 := nmI_1.mpr (isNm_iff.mpr ⟨hk, fun k hk2 e => by
  have h2 : wI T p (WN k) = 1 := wI_1.mpr (decide_eq_true ⟨hk, e⟩)
  have h3 : k = 0 ∨ k = 1 ∨ k = 2 ∨ k = 3 ∨ k = 4 ∨ k = 5 ∨ k = 6 ∨ k = 7 ∨ k = 8 ∨ k = 9 ∨ k = 10 ∨ k = 11 ∨ k = 12 ∨ k = 13 ∨ k = 14 ∨ k = 15 ∨ k = 16 := by omega
  rcases h3 with rfl | rfl | rfl | rfl | rfl | rfl | rfl | rfl | rfl | rfl | rfl | rfl | rfl | rfl | rfl | rfl | rfl <;> omega⟩)
theorem nm_w {T : Nat → Int × Int64 × Nat} {p k : Nat} (hk : k < 17) (h : wI T p (WN k) = 1) : nmI T p = 0 := nmI_0.mpr (fun q => (isNm_iff.mp q).2 k hk (of_decide_eq_true (wI_1.mp h)).2)
theorem nm_0 {T : Nat → Int × Int64 × Nat} {p : Nat} (h : ¬ (T p).1 = 1 ∨ wI T p (WN 0) = 1 ∨ wI T p (WN 1) = 1 ∨ wI T p (WN 2) = 1 ∨ wI T p (WN 3) = 1 ∨ wI T p (WN 4) = 1 ∨ wI T p (WN 5) = 1 ∨ wI T p (WN 6) = 1 ∨ wI T p (WN 7) = 1 ∨ wI T p (WN 8) = 1 ∨ wI T p (WN 9) = 1 ∨ wI T p (WN 10) = 1 ∨ wI T p (WN 11) = 1 ∨ wI T p (WN 12) = 1 ∨ wI T p (WN 13) = 1 ∨ wI T p (WN 14) = 1 ∨ wI T p (WN 15) = 1 ∨ wI T p (WN 16) = 1) : nmI T p = 0 := by
  rcases h with h | h | h | h | h | h | h | h | h | h | h | h | h | h | h | h | h | h
  · exact nmI_0.mpr (fun q => h (isNm_iff.mp q).1)
  · exact nm_w (k := 0) (by decide) h
  · exact nm_w (k := 1) (by decide) h
  · exact nm_w (k := 2) (by decide) h
  · exact nm_w (k := 3) (by decide) h
  · exact nm_w (k := 4) (by decide) h
  · exact nm_w (k := 5) (by decide) h
  · exact nm_w (k := 6) (by decide) h
  · exact nm_w (k := 7) (by decide) h
  · exact nm_w (k := 8) (by decide) h
  · exact nm_w (k := 9) (by decide) h
  · exact nm_w (k := 10) (by decide) h
  · exact nm_w (k := 11) (by decide) h
  · exact nm_w (k := 12) (by decide) h
  · exact nm_w (k := 13) (by decide) h
  · exact nm_w (k := 14) (by decide) h
  · exact nm_w (k := 15) (by decide) h
  · exact nm_w (k := 16) (by decide) h
/-- bits of a number -/
def BT (x : Int32) (j : Nat) : Bool := x.toBitVec.getLsbD j
theorem bt_1 : ∀ i, i < 32 → 0 < i → (1 : Int32).toBitVec.getLsbD i = false := by decide +kernel
theorem bt_z : ∀ i, i < 32 → (0 : Int32).toBitVec.getLsbD i = false := by decide +kernel
theorem bt_c : ∀ k, k < 32 → (((nI k).toUInt32 &&& Int32.toUInt32 31).toBitVec % 32).toNat = k := by decide +kernel
theorem bt_s : ∀ n, n < 12 → ∀ j, j < 12 → ((1 : Int32) <<< (nI n &&& 31)).toBitVec.getLsbD j = decide (j = n) := by decide +kernel
theorem and1_bt (y : Int32) : y &&& 1 = if y.toBitVec.getLsbD 0 = true then 1 else 0 := by
  apply Int32.toBitVec_inj.mp
  apply BitVec.eq_of_getLsbD_eq
  intro i hi
  rw [Int32.toBitVec_and, BitVec.getLsbD_and]
  rcases Nat.eq_zero_or_pos i with q | q
  · subst q
    by_cases b : y.toBitVec.getLsbD 0 = true
    · rw [if_pos b, b]; rfl
    · rw [if_neg b, Bool.eq_false_iff.mpr b]; rfl
  · rw [bt_1 i hi q, Bool.and_false]
    by_cases b : y.toBitVec.getLsbD 0 = true
    · rw [if_pos b, bt_1 i hi q]
    · rw [if_neg b]; exact (bt_z i hi).symm
theorem bt_rd {x k : Int32} (h0 : 0 ≤ k.toInt) (h1 : k.toInt < 32) : ((x.toUInt32 >>> (k.toUInt32 &&& Int32.toUInt32 31)).toInt32 &&& 1).toInt = if BT x k.toInt.toNat = true then 1 else 0 := by
  obtain ⟨n, e, hn, _⟩ := nI_ofI h0
  have e2 : k.toInt.toNat = n := by omega
  rw [and1_bt, e2]
  have e3 : (x.toUInt32 >>> (k.toUInt32 &&& Int32.toUInt32 31)).toInt32.toBitVec.getLsbD 0 = BT x n := by
    subst e
    show (x.toUInt32 >>> ((nI n).toUInt32 &&& Int32.toUInt32 31)).toBitVec.getLsbD 0 = x.toUInt32.toBitVec.getLsbD n
    rw [UInt32.toBitVec_shiftRight]
    show (x.toUInt32.toBitVec >>> (((nI n).toUInt32 &&& Int32.toUInt32 31).toBitVec % 32).toNat).getLsbD 0 = _
    rw [bt_c n (by omega), BitVec.getLsbD_ushiftRight, Nat.add_zero]
  rw [e3]
  by_cases b : BT x n = true
  · rw [if_pos b, if_pos b]; rfl
  · rw [if_neg b, if_neg b]; rfl
theorem bt_or {x k : Int32} (h0 : 0 ≤ k.toInt) (h1 : k.toInt < 12) {j : Nat} (hj : j < 12) : BT (x ||| ((1 : Int32) <<< (k &&& 31))) j = (BT x j || decide (j = k.toInt.toNat)) := by
  obtain ⟨n, e, hn, _⟩ := nI_ofI h0
  have e2 : k.toInt.toNat = n := by omega
  have hn2 : n < 12 := by omega
  rw [e2]
  subst e
  unfold BT
  rw [Int32.toBitVec_or, BitVec.getLsbD_or, bt_s n hn2 j hj]
/-- what the class has told and what is told purely -/
def CN (wn sn : Nat → Int64) (w s : Int) (S : ((Nat → Int64) × Nat × (Nat → Int64) × Nat × (Nat → Bool) × (Nat → Bool) × Nat)) : Prop := w = ((S.2.1 : Nat) : Int) ∧ s = ((S.2.2.2.1 : Nat) : Int) ∧ (∀ j, j < S.2.1 → NMR (wn j) (S.1 j)) ∧ (∀ j, j < S.2.2.2.1 → NMR (sn j) (S.2.2.1 j))
def CR (wn sn : Nat → Int64) (w s nn : Int) (tops habs : Int32) (S : ((Nat → Int64) × Nat × (Nat → Int64) × Nat × (Nat → Bool) × (Nat → Bool) × Nat)) : Prop := CN wn sn w s S ∧ nn = ((S.2.2.2.2.2.2 : Nat) : Int) ∧ (∀ j, j < 12 → BT tops j = S.2.2.2.2.1 j) ∧ (∀ j, j < 12 → BT habs j = S.2.2.2.2.2.1 j)
theorem FX1 {wn nm : Nat → Int64} {c : Nat} {code v : Int64} (hN : ∀ j, j < c → NMR (wn j) (nm j)) (hv : NMR code v) (h : ∀ j, j < c → ¬ wn j = code) : fnd nm c v = c := fnd_no (fun j hj e => h j hj (((hN j hj).iff hv).mpr e))
theorem FX2 {wn nm : Nat → Int64} {c k : Nat} {code v : Int64} (hN : ∀ j, j < c → NMR (wn j) (nm j)) (hv : NMR code v) (hk : k < c) (h1 : wn k = code) (h : ∀ j, j < k → ¬ wn j = code) : fnd nm c v = k := fnd_eq hk (((hN k hk).iff hv).mp h1) (fun j hj e => h j hj (((hN j (by omega)).iff hv).mpr e))
theorem CR.ware {T : Nat → Int × Int64 × Nat} {wn sn wn' : Nat → Int64} {w s nn w' : Int} {tops habs : Int32} {S : ((Nat → Int64) × Nat × (Nat → Int64) × Nat × (Nat → Bool) × (Nat → Bool) × Nat)} {p : Nat} (h : CR wn sn w s nn tops habs S) (hw : w' = w + 1) (h1 : ∀ j : Nat, ¬ j = w.toNat → wn' j = wn j) (h2 : NMR (wn' w.toNat) (T (nx T p)).2.1) : CR wn' sn w' s nn tops habs (sWare T S p) := by
  obtain ⟨⟨a1, a2, a3, a4⟩, b, c, d⟩ := h
  have ew : w.toNat = S.2.1 := by omega
  rw [ew] at h1 h2
  refine ⟨⟨?_, a2, ?_, a4⟩, b, c, d⟩
  · show w' = ((S.2.1 + 1 : Nat) : Int); omega
  · intro j hj
    have hj2 : j < S.2.1 + 1 := hj
    show NMR (wn' j) (vp_updL S.1 S.2.1 (T (nx T p)).2.1 j)
    by_cases q : j = S.2.1
    · rw [q, pk_uLs]; exact h2
    · rw [pk_uLn q, h1 j q]; exact a3 j (by omega)
theorem CR.shelf {T : Nat → Int × Int64 × Nat} {wn sn sn' : Nat → Int64} {w s nn s' : Int} {tops habs : Int32} {S : ((Nat → Int64) × Nat × (Nat → Int64) × Nat × (Nat → Bool) × (Nat → Bool) × Nat)} {p : Nat} (h : CR wn sn w s nn tops habs S) (hw : s' = s + 1) (h1 : ∀ j : Nat, ¬ j = s.toNat → sn' j = sn j) (h2 : NMR (sn' s.toNat) (T (nx T p)).2.1) : CR wn sn' w s' nn tops habs (sShelf T S p) := by
  obtain ⟨⟨a1, a2, a3, a4⟩, b, c, d⟩ := h
  have ew : s.toNat = S.2.2.2.1 := by omega
  rw [ew] at h1 h2
  refine ⟨⟨a1, ?_, a3, ?_⟩, b, c, d⟩
  · show s' = ((S.2.2.2.1 + 1 : Nat) : Int); omega
  · intro j hj
    have hj2 : j < S.2.2.2.1 + 1 := hj
    show NMR (sn' j) (vp_updL S.2.2.1 S.2.2.2.1 (T (nx T p)).2.1 j)
    by_cases q : j = S.2.2.2.1
    · rw [q, pk_uLs]; exact h2
    · rw [pk_uLn q, h1 j q]; exact a4 j (by omega)
theorem updB_or {f : Nat → Bool} {k j : Nat} : updB f k j = (f j || decide (j = k)) := by
  unfold updB
  by_cases q : j = k
  · rw [if_pos q, decide_eq_true q, Bool.or_true]
  · rw [if_neg q, decide_eq_false q, Bool.or_false]
theorem CR.top {T : Nat → Int × Int64 × Nat} {wn sn : Nat → Int64} {w s nn : Int} {tops habs k : Int32} {S : ((Nat → Int64) × Nat × (Nat → Int64) × Nat × (Nat → Bool) × (Nat → Bool) × Nat)} {p : Nat} (h : CR wn sn w s nn tops habs S) (h0 : 0 ≤ k.toInt) (h1 : k.toInt < 12) (hk : k.toInt = ((fnd S.1 S.2.1 (T (nx T p)).2.1 : Nat) : Int)) : CR wn sn w s nn (tops ||| ((1 : Int32) <<< (k &&& 31))) habs (sTop T S p) := by
  obtain ⟨a, b, c, d⟩ := h
  refine ⟨a, b, fun j hj => ?_, d⟩
  show _ = updB S.2.2.2.2.1 (fnd S.1 S.2.1 (T (nx T p)).2.1) j
  rw [bt_or h0 h1 hj, updB_or, c j hj, hk, Int.toNat_natCast]
theorem CR.hab {T : Nat → Int × Int64 × Nat} {wn sn : Nat → Int64} {w s nn : Int} {tops habs k : Int32} {S : ((Nat → Int64) × Nat × (Nat → Int64) × Nat × (Nat → Bool) × (Nat → Bool) × Nat)} {p : Nat} (h : CR wn sn w s nn tops habs S) (h0 : 0 ≤ k.toInt) (h1 : k.toInt < 12) (hk : k.toInt = ((fnd S.1 S.2.1 (T (nx T p)).2.1 : Nat) : Int)) : CR wn sn w s nn tops (habs ||| ((1 : Int32) <<< (k &&& 31))) (sHab T S p) := by
  obtain ⟨a, b, c, d⟩ := h
  refine ⟨a, b, c, fun j hj => ?_⟩
  show _ = updB S.2.2.2.2.2.1 (fnd S.1 S.2.1 (T (nx T p)).2.1) j
  rw [bt_or h0 h1 hj, updB_or, d j hj, hk, Int.toNat_natCast]
theorem CR.nest {wn sn : Nat → Int64} {w s nn nn' : Int} {tops habs : Int32} {S : ((Nat → Int64) × Nat × (Nat → Int64) × Nat × (Nat → Bool) × (Nat → Bool) × Nat)} (h : CR wn sn w s nn tops habs S) (hw : nn' = nn + 1) : CR wn sn w s nn' tops habs (sNest S) := by
  obtain ⟨a, b, c, d⟩ := h
  refine ⟨a, ?_, c, d⟩
  show nn' = ((S.2.2.2.2.2.2 + 1 : Nat) : Int); omega
theorem CR.zero {wn sn : Nat → Int64} : CR wn sn 0 0 0 0 0 S0 := ⟨⟨rfl, rfl, fun j hj => absurd hj (Nat.not_lt_zero j), fun j hj => absurd hj (Nat.not_lt_zero j)⟩, rfl, fun j hj => bt_z j (by omega), fun j hj => bt_z j (by omega)⟩
/-- a WARE behind a word -/
def RW (ret pl fa fa0 : Int) (k : Nat) (r : Nat × Int) : Prop := (0 ≤ ret → r = (pl.toNat, 0) ∧ fa = fa0 ∧ ret = (k : Int)) ∧ (ret = -1 → r.2 = fa ∧ ¬ r.2 = 0)
theorem RW.wr {ret pl fa fa0 k : Int} {n : Nat} (hr : ret = -1) (h : fa = k + 16 * pl) (h0 : 0 ≤ pl) (hk : 1 ≤ k) : RW ret pl fa fa0 n (flt k pl.toNat) := ⟨fun z => absurd z (by omega), fun _ => ⟨by show k + 16 * ((pl.toNat : Nat) : Int) = fa; omega, flt_ne hk⟩⟩
theorem RW.mv {ret pl fa fa0 : Int} {n : Nat} {r r' : Nat × Int} (h : RW ret pl fa fa0 n r) (e : r' = r) : RW ret pl fa fa0 n r' := e ▸ h
/-- the reading of all under way -/
def RDG (T : Nat → Int × Int64 × Nat) (wn sn : Nat → Int64) (w s nn : Int) (tops habs : Int32) (k : Nat) (ret pl fa : Int) (F : Int) : Prop := (ret = 1 → ∃ S : ((Nat → Int64) × Nat × (Nat → Int64) × Nat × (Nat → Bool) × (Nat → Bool) × Nat), CR wn sn w s nn tops habs S ∧ rAll T k S pl.toNat = F ∧ fa = 0) ∧ (ret = 0 → fa = F)
theorem wnE_2 : wnL 2 = WN 0 := by decide +kernel
theorem wnE_3 : wnL 3 = WN 1 := by decide +kernel
theorem wnE_4 : wnL 4 = WN 2 := by decide +kernel
theorem wnE_5 : wnL 5 = WN 3 := by decide +kernel
theorem wnE_6 : wnL 6 = WN 4 := by decide +kernel
theorem wnE_7 : wnL 7 = WN 5 := by decide +kernel
theorem wnE_8 : wnL 8 = WN 6 := by decide +kernel
theorem wnE_9 : wnL 9 = WN 7 := by decide +kernel
theorem wnE_10 : wnL 10 = WN 8 := by decide +kernel
theorem wnE_11 : wnL 11 = WN 9 := by decide +kernel
theorem wnE_12 : wnL 12 = WN 10 := by decide +kernel
theorem wnE_13 : wnL 13 = WN 11 := by decide +kernel
theorem wnE_14 : wnL 14 = WN 12 := by decide +kernel
theorem wnE_15 : wnL 15 = WN 13 := by decide +kernel
theorem wnE_16 : wnL 16 = WN 15 := by decide +kernel
theorem wnE_17 : wnL 17 = WN 16 := by decide +kernel
theorem wnE_18 : wnL 18 = WN 14 := by decide +kernel
theorem wnE_19 : wnL 19 = WN 17 := by decide +kernel
theorem wnE_20 : wnL 20 = WN 18 := by decide +kernel
theorem wnE_21 : wnL 21 = WN 19 := by decide +kernel
theorem wnE_22 : wnL 22 = WN 20 := by decide +kernel
theorem wnE_23 : wnL 23 = WN 21 := by decide +kernel
theorem wnE_24 : wnL 24 = WN 22 := by decide +kernel
theorem wnE_26 : wnL 26 = WN 0 := by decide +kernel
theorem wnE_27 : wnL 27 = WN 1 := by decide +kernel
theorem wnE_28 : wnL 28 = WN 2 := by decide +kernel
theorem wnE_29 : wnL 29 = WN 3 := by decide +kernel
theorem wnE_30 : wnL 30 = WN 4 := by decide +kernel
theorem wnE_31 : wnL 31 = WN 5 := by decide +kernel
theorem wnE_32 : wnL 32 = WN 6 := by decide +kernel
theorem wnE_33 : wnL 33 = WN 7 := by decide +kernel
theorem wnE_34 : wnL 34 = WN 8 := by decide +kernel
theorem wnE_35 : wnL 35 = WN 9 := by decide +kernel
theorem wnE_36 : wnL 36 = WN 10 := by decide +kernel
theorem wnE_37 : wnL 37 = WN 11 := by decide +kernel
theorem wnE_38 : wnL 38 = WN 12 := by decide +kernel
theorem wnE_39 : wnL 39 = WN 13 := by decide +kernel
theorem wnE_40 : wnL 40 = WN 14 := by decide +kernel
theorem wnE_41 : wnL 41 = WN 15 := by decide +kernel
theorem wnE_42 : wnL 42 = WN 16 := by decide +kernel
