
/-- how many of the first m are so -/
def cnB (P : Nat → Bool) : Nat → Nat
  | 0 => 0
  | j + 1 => cnB P j + (if P j = true then 1 else 0)
theorem cnB_s (P : Nat → Bool) (j : Nat) : cnB P (j + 1) = cnB P j + (if P j = true then 1 else 0) := rfl
theorem cnB_y {P : Nat → Bool} {j : Nat} (h : P j = true) : cnB P (j + 1) = cnB P j + 1 := by rw [cnB_s, if_pos h]
theorem cnB_n {P : Nat → Bool} {j : Nat} (h : ¬ P j = true) : cnB P (j + 1) = cnB P j := by rw [cnB_s, if_neg h, Nat.add_zero]
theorem cnB_le (P : Nat → Bool) : ∀ m, cnB P m ≤ m := by
  intro m
  induction m with
  | zero => exact Nat.le_refl 0
  | succ m ih =>
    by_cases h : P m = true
    · rw [cnB_y h]; omega
    · rw [cnB_n h]; omega
theorem cnB_cong {P Q : Nat → Bool} : ∀ m, (∀ j, j < m → P j = Q j) → cnB P m = cnB Q m := by
  intro m
  induction m with
  | zero => intro _; rfl
  | succ m ih =>
    intro h
    rw [cnB_s, cnB_s, ih (fun j hj => h j (by omega)), h m (by omega)]
theorem cnB_0 {P : Nat → Bool} : ∀ m, (∀ j, j < m → ¬ P j = true) → cnB P m = 0 := by
  intro m
  induction m with
  | zero => intro _; rfl
  | succ m ih => intro h; rw [cnB_n (h m (by omega))]; exact ih (fun j hj => h j (by omega))
/-- they are as many as a row of them that differ and are all -/
theorem cnB_row {P : Nat → Bool} : ∀ (m n : Nat) (g : Nat → Nat), (∀ p, p < n → g p < m ∧ P (g p) = true) → (∀ p q, p < q → q < n → ¬ g p = g q) → (∀ w, w < m → P w = true → ∃ p, p < n ∧ g p = w) → cnB P m = n := by
  intro m
  induction m with
  | zero =>
    intro n g h1 _ _
    rcases Nat.eq_zero_or_pos n with q | q
    · exact q.symm
    · exact absurd (h1 0 q).1 (by omega)
  | succ m ih =>
    intro n g h1 h2 h3
    by_cases hP : P m = true
    · obtain ⟨p0, hp0, hg0⟩ := h3 m (by omega) hP
      have ne : ∀ q, q < n → ¬ q = p0 → ¬ g q = m := fun q hq hn e => by
        rcases Nat.lt_or_ge q p0 with z | z
        · exact h2 q p0 z hp0 (e.trans hg0.symm)
        · exact h2 p0 q (by omega) hq (hg0.trans e.symm)
      have r := ih (n - 1) (fun q => if q = p0 then g (n - 1) else g q) (fun q hq => by
        show (if q = p0 then g (n - 1) else g q) < m ∧ P (if q = p0 then g (n - 1) else g q) = true
        by_cases e : q = p0
        · rw [if_pos e]
          have a1 := h1 (n - 1) (by omega)
          have a2 := ne (n - 1) (by omega) (by omega)
          exact ⟨by omega, a1.2⟩
        · rw [if_neg e]
          have a1 := h1 q (by omega)
          have a2 := ne q (by omega) e
          exact ⟨by omega, a1.2⟩) (fun q r hqr hr => by
        show ¬ (if q = p0 then g (n - 1) else g q) = (if r = p0 then g (n - 1) else g r)
        by_cases e : q = p0
        · rw [if_pos e, if_neg (by omega)]; exact fun z => h2 r (n - 1) (by omega) (by omega) z.symm
        · rw [if_neg e]
          by_cases e2 : r = p0
          · rw [if_pos e2]; exact h2 q (n - 1) (by omega) (by omega)
          · rw [if_neg e2]; exact h2 q r hqr (by omega)) (fun w hw hPw => by
        obtain ⟨p, hp, hg⟩ := h3 w (by omega) hPw
        have np : ¬ p = p0 := fun z => by rw [z, hg0] at hg; omega
        by_cases e : p = n - 1
        · refine ⟨p0, by omega, ?_⟩
          show (if p0 = p0 then g (n - 1) else g p0) = w
          rw [if_pos rfl, ← e]; exact hg
        · refine ⟨p, by omega, ?_⟩
          show (if p = p0 then g (n - 1) else g p) = w
          rw [if_neg np]; exact hg)
      rw [cnB_y hP, r]; omega
    · rw [cnB_n hP]
      exact ih n g (fun p hp => by
        have a := h1 p hp
        have b : ¬ g p = m := fun z => hP (by rw [← z]; exact a.2)
        exact ⟨by omega, a.2⟩) h2 (fun w hw => h3 w (by omega))

/-- whether a ware stands in a stack of the class; the row of a stack: wares from below -/
def std (sh st : Nat → Int32) (s k : Int32) (w : Nat) : Bool := decide (sh w = s ∧ st w = k)
theorem std_iff {sh st : Nat → Int32} {s k : Int32} {w : Nat} : std sh st s k w = true ↔ sh w = s ∧ st w = k := by unfold std; exact decide_eq_true_iff
def ROW (sh st lv : Nat → Int32) (s k : Int32) (r : Nat → Int32) (n : Nat) : Prop := (∀ w : Nat, w < 12 → sh w = s → st w = k → 0 ≤ (lv w).toInt ∧ (lv w).toInt < (n : Int) ∧ (r (lv w).toInt.toNat).toInt = (w : Int)) ∧ ∀ p : Nat, p < n → ∃ w : Nat, w < 12 ∧ (r p).toInt = (w : Int) ∧ sh w = s ∧ st w = k ∧ (lv w).toInt = (p : Int)
theorem ROW.size {sh st lv : Nat → Int32} {s k : Int32} {r : Nat → Int32} {n : Nat} (h : ROW sh st lv s k r n) : cnB (std sh st s k) 12 = n :=
  cnB_row 12 n (fun p => (r p).toInt.toNat) (fun p hp => by
    obtain ⟨w, h1, h2, h3, h4, h5⟩ := h.2 p hp
    have e : (r p).toInt.toNat = w := by omega
    show (r p).toInt.toNat < 12 ∧ std sh st s k (r p).toInt.toNat = true
    rw [e]; exact ⟨h1, std_iff.mpr ⟨h3, h4⟩⟩) (fun p q hpq hq e => by
    obtain ⟨w, h1, h2, h3, h4, h5⟩ := h.2 p (by omega)
    obtain ⟨v, g1, g2, g3, g4, g5⟩ := h.2 q hq
    have e' : (r p).toInt.toNat = (r q).toInt.toNat := e
    have : w = v := by omega
    subst this; omega) (fun w hw hP => by
    obtain ⟨a, b⟩ := std_iff.mp hP
    obtain ⟨c, d, e⟩ := h.1 w hw a b
    refine ⟨(lv w).toInt.toNat, by omega, ?_⟩
    show (r (lv w).toInt.toNat).toInt.toNat = w
    omega)
theorem ROW.le {sh st lv : Nat → Int32} {s k : Int32} {r : Nat → Int32} {n : Nat} (h : ROW sh st lv s k r n) : n ≤ 12 := by rw [← h.size]; exact cnB_le _ 12
theorem ROW.bd {sh st lv : Nat → Int32} {s k : Int32} {r : Nat → Int32} {n : Nat} (h : ROW sh st lv s k r n) {p : Nat} (hp : p < n) : 0 ≤ (r p).toInt ∧ (r p).toInt < 12 := by
  obtain ⟨w, h1, h2, _⟩ := h.2 p hp; omega
theorem ROW.ne {sh st lv : Nat → Int32} {s k : Int32} {r : Nat → Int32} {n : Nat} (h : ROW sh st lv s k r n) {p q : Nat} (hp : p < n) (hq : q < n) (hpq : ¬ p = q) : ¬ r p = r q := fun e => by
  obtain ⟨w, h1, h2, h3, h4, h5⟩ := h.2 p hp
  obtain ⟨v, g1, g2, g3, g4, g5⟩ := h.2 q hq
  rw [e] at h2
  have : w = v := by omega
  subst this; omega
theorem ROW.at {sh st lv : Nat → Int32} {s k : Int32} {r : Nat → Int32} {n : Nat} (h : ROW sh st lv s k r n) {w : Nat} (hw : w < 12) (h1 : sh w = s) (h2 : st w = k) : (lv w).toInt.toNat < n ∧ (r (lv w).toInt.toNat).toInt = (w : Int) ∧ 0 ≤ (lv w).toInt := by
  obtain ⟨a, b, c⟩ := h.1 w hw h1 h2; exact ⟨by omega, c, a⟩
/-- why a row does not stand -/
def wtF (wt : Nat → Int32) (r : Nat → Int32) (i : Nat) : Nat → Int32
  | 0 => 0
  | n + 1 => if i ≤ n then wtF wt r i n + wt (r n).toInt.toNat else 0
def ftF (rs : Nat → Nat → Int32) (r : Nat → Int32) : Nat → Int32
  | 0 => 0
  | p + 1 => ftF rs r p + rs (r (p + 1)).toInt.toNat (r p).toInt.toNat
def hiF (rs : Nat → Nat → Int32) (dp : Nat → Int32) (r : Nat → Int32) : Nat → Int32
  | 0 => 0
  | n + 1 => if hiF rs dp r n < ftF rs r n + dp (r n).toInt.toNat then ftF rs r n + dp (r n).toInt.toNat else hiF rs dp r n
def myF (M : Nat → Nat → Bool) (r : Nat → Int32) (n : Nat) : Prop := ∀ i : Nat, 1 ≤ i → i < n → M (r i).toInt.toNat (r (i - 1)).toInt.toNat = true
def brF (wt br : Nat → Int32) (r : Nat → Int32) (n : Nat) : Prop := ∀ i : Nat, i < n → ¬ br (r i).toInt.toNat < wtF wt r (i + 1) n
/-- the first reason, as a relation: so that no side needs decide -/
def RFZ (M : Nat → Nat → Bool) (wt br dp : Nat → Int32) (rs : Nat → Nat → Int32) (r : Nat → Int32) (n : Nat) (h : Int32) (x : Int) : Prop := (x = 4 ∧ ¬ myF M r n) ∨ (myF M r n ∧ ((x = 5 ∧ ¬ brF wt br r n) ∨ (brF wt br r n ∧ ((x = 6 ∧ h < hiF rs dp r n) ∨ (x = 0 ∧ ¬ h < hiF rs dp r n)))))
theorem RFZ.uniq {M : Nat → Nat → Bool} {wt br dp : Nat → Int32} {rs : Nat → Nat → Int32} {r : Nat → Int32} {n : Nat} {h : Int32} {x y : Int} (a : RFZ M wt br dp rs r n h x) (b : RFZ M wt br dp rs r n h y) : x = y := by
  rcases a with ⟨a1, a2⟩ | ⟨a2, ⟨a1, a3⟩ | ⟨a3, ⟨a1, a4⟩ | ⟨a1, a4⟩⟩⟩
  · rcases b with ⟨b1, b2⟩ | ⟨b2, _⟩
    · exact a1.trans b1.symm
    · exact absurd b2 a2
  · rcases b with ⟨b1, b2⟩ | ⟨b2, ⟨b1, b3⟩ | ⟨b3, _⟩⟩
    · exact absurd a2 b2
    · exact a1.trans b1.symm
    · exact absurd b3 a3
  · rcases b with ⟨b1, b2⟩ | ⟨b2, ⟨b1, b3⟩ | ⟨b3, ⟨b1, b4⟩ | ⟨b1, b4⟩⟩⟩
    · exact absurd a2 b2
    · exact absurd a3 b3
    · exact a1.trans b1.symm
    · exact absurd a4 b4
  · rcases b with ⟨b1, b2⟩ | ⟨b2, ⟨b1, b3⟩ | ⟨b3, ⟨b1, b4⟩ | ⟨b1, b4⟩⟩⟩
    · exact absurd a2 b2
    · exact absurd a3 b3
    · exact absurd b4 a4
    · exact a1.trans b1.symm
theorem wtF_cong {wt wt' r r' : Nat → Int32} {i : Nat} : ∀ n, (∀ p, i ≤ p → p < n → wt (r p).toInt.toNat = wt' (r' p).toInt.toNat) → wtF wt r i n = wtF wt' r' i n := by
  intro n
  induction n with
  | zero => intro _; rfl
  | succ n ih =>
    intro h
    show (if i ≤ n then wtF wt r i n + wt (r n).toInt.toNat else 0) = (if i ≤ n then wtF wt' r' i n + wt' (r' n).toInt.toNat else 0)
    by_cases q : i ≤ n
    · rw [if_pos q, if_pos q, ih (fun p h1 h2 => h p h1 (by omega)), h n q (by omega)]
    · rw [if_neg q, if_neg q]
theorem wtF_top (wt r : Nat → Int32) (i : Nat) {n : Nat} (h : i ≤ n) : wtF wt r i (n + 1) = wtF wt r i n + wt (r n).toInt.toNat := if_pos h
theorem wtF_0 (wt r : Nat → Int32) {i n : Nat} (h : n ≤ i) : wtF wt r i n = 0 := by
  cases n with
  | zero => rfl
  | succ n => exact if_neg (by omega)
/-- from below: one more ahead -/
theorem wtF_low (wt r : Nat → Int32) {i : Nat} : ∀ n, i < n → wtF wt r i n = wt (r i).toInt.toNat + wtF wt r (i + 1) n := by
  intro n
  induction n with
  | zero => intro h; exact absurd h (Nat.not_lt_zero _)
  | succ n ih =>
    intro h
    rw [wtF_top wt r i (by omega)]
    by_cases q : i = n
    · rw [wtF_0 wt r (by omega), wtF_0 wt r (i := i + 1) (n := n + 1) (by omega), q, Int32.zero_add, Int32.add_zero]
    · rw [ih (by omega), wtF_top wt r (i + 1) (by omega), Int32.add_assoc]
theorem ftF_cong {rs rs' : Nat → Nat → Int32} {r r' : Nat → Int32} : ∀ p, (∀ q, q < p → rs (r (q + 1)).toInt.toNat (r q).toInt.toNat = rs' (r' (q + 1)).toInt.toNat (r' q).toInt.toNat) → ftF rs r p = ftF rs' r' p := by
  intro p
  induction p with
  | zero => intro _; rfl
  | succ p ih => intro h; show ftF rs r p + _ = ftF rs' r' p + _; rw [ih (fun q hq => h q (by omega)), h p (by omega)]
theorem hiF_cong {rs rs' : Nat → Nat → Int32} {dp dp' r r' : Nat → Int32} : ∀ n, (∀ q, q + 1 < n → rs (r (q + 1)).toInt.toNat (r q).toInt.toNat = rs' (r' (q + 1)).toInt.toNat (r' q).toInt.toNat) → (∀ q, q < n → dp (r q).toInt.toNat = dp' (r' q).toInt.toNat) → hiF rs dp r n = hiF rs' dp' r' n := by
  intro n
  induction n with
  | zero => intro _ _; rfl
  | succ n ih =>
    intro h1 h2
    show (if hiF rs dp r n < ftF rs r n + dp (r n).toInt.toNat then _ else _) = (if hiF rs' dp' r' n < ftF rs' r' n + dp' (r' n).toInt.toNat then _ else _)
    rw [ih (fun q hq => h1 q (by omega)) (fun q hq => h2 q (by omega)), ftF_cong n (fun q hq => h1 q (by omega)), h2 n (by omega)]
theorem RFZ.cong {M M' : Nat → Nat → Bool} {wt br dp wt' br' dp' : Nat → Int32} {rs rs' : Nat → Nat → Int32} {r r' : Nat → Int32} {n : Nat} {h h' : Int32} {x : Int} (a : RFZ M wt br dp rs r n h x) (hh : h = h') (hM : ∀ p, p + 1 < n → M (r (p + 1)).toInt.toNat (r p).toInt.toNat = M' (r' (p + 1)).toInt.toNat (r' p).toInt.toNat) (hw : ∀ p, p < n → wt (r p).toInt.toNat = wt' (r' p).toInt.toNat) (hb : ∀ p, p < n → br (r p).toInt.toNat = br' (r' p).toInt.toNat) (hd : ∀ p, p < n → dp (r p).toInt.toNat = dp' (r' p).toInt.toNat) (hr : ∀ p, p + 1 < n → rs (r (p + 1)).toInt.toNat (r p).toInt.toNat = rs' (r' (p + 1)).toInt.toNat (r' p).toInt.toNat) : RFZ M' wt' br' dp' rs' r' n h' x := by
  subst hh
  have e1 : myF M r n ↔ myF M' r' n := by
    constructor
    · intro z i h1 h2
      have y := hM (i - 1) (by omega)
      rw [show i - 1 + 1 = i from (by omega)] at y
      rw [← y]; exact z i h1 h2
    · intro z i h1 h2
      have y := hM (i - 1) (by omega)
      rw [show i - 1 + 1 = i from (by omega)] at y
      rw [y]; exact z i h1 h2
  have e2 : brF wt br r n ↔ brF wt' br' r' n := by
    have y : ∀ i, wtF wt r (i + 1) n = wtF wt' r' (i + 1) n := fun i => wtF_cong n (fun p _ h2 => hw p h2)
    constructor
    · intro z i h1
      rw [← y i, ← hb i h1]; exact z i h1
    · intro z i h1
      rw [y i, hb i h1]; exact z i h1
  have e3 := hiF_cong n hr hd
  unfold RFZ
  rw [← e1, ← e2, ← e3]; exact a

/-- a row is changed place by place: V is what comes, i how far it is -/
def PWI (V : Nat → Int) (g0 g : Nat → Int32) (i : Int) : Prop := ∀ j : Nat, j < 12 → ((j : Int) < i → (g j).toInt = V j) ∧ (i ≤ (j : Int) → g j = g0 j)
theorem PWI.zero {V : Nat → Int} {g0 : Nat → Int32} {i : Int} (hi : i = 0) : PWI V g0 g0 i := fun j _ => ⟨fun h => absurd h (by omega), fun _ => rfl⟩
theorem PWI.at {V : Nat → Int} {g0 g : Nat → Int32} {i : Int} (h : PWI V g0 g i) (h0 : 0 ≤ i) (h12 : i < 12) : g i.toNat = g0 i.toNat := (h i.toNat (by omega)).2 (by omega)
theorem PWI.step {V : Nat → Int} {g0 g g' : Nat → Int32} {i i' : Int} (h : PWI V g0 g i) (hi : i' = i + 1) (h0 : 0 ≤ i) (hf : ∀ j : Nat, ¬ j = i.toNat → g' j = g j) (hv : (g' i.toNat).toInt = V i.toNat) : PWI V g0 g' i' := fun j hj => by
  by_cases e : j = i.toNat
  · rw [e]; exact ⟨fun _ => hv, fun z => absurd z (by omega)⟩
  · rw [hf j e]; exact ⟨fun z => (h j hj).1 (by omega), fun z => (h j hj).2 (by omega)⟩
theorem PWI.fin {V : Nat → Int} {g0 g : Nat → Int32} {i : Int} (h : PWI V g0 g i) (hi : 12 ≤ i) : ∀ j : Nat, j < 12 → (g j).toInt = V j := fun j hj => (h j hj).1 (by omega)
/-- those above a ware come one down; a gap is closed -/
def snk (sh st lv : Nat → Int32) (w j : Nat) : Int := if sh j = sh w ∧ st j = st w ∧ (lv w).toInt < (lv j).toInt then (lv j).toInt - 1 else (lv j).toInt
def gpf (sh st : Nat → Int32) (s k : Int32) (j : Nat) : Int := if sh j = s ∧ k.toInt < (st j).toInt then (st j).toInt - 1 else (st j).toInt
theorem snk_low {sh st lv g : Nat → Int32} {w : Nat} {i : Int} (h : PWI (snk sh st lv w) lv g i) (hw : w < 12) : (g w).toInt = (lv w).toInt := by
  rcases Int.lt_or_le (w : Int) i with q | q
  · rw [(h w hw).1 q]; exact if_neg (fun z => by have := z.2.2; omega)
  · rw [(h w hw).2 q]
/-- whether a ware is out -/
def oT (sh : Nat → Int32) (w : Nat) : Bool := decide ((sh w).toInt = -1)
theorem oT_iff {sh : Nat → Int32} {w : Nat} : oT sh w = true ↔ (sh w).toInt = -1 := decide_eq_true_iff
/-- how much higher a foot is, by the class's rows -/
def rsC (wd dp : Nat → Int32) (lids : Int32) (u l : Nat) : Int32 := if (wd u).toInt < (wd l).toInt ∧ BT lids l = false then 1 else dp l
theorem ftF_s (rs : Nat → Nat → Int32) (r : Nat → Int32) (p : Nat) : ftF rs r (p + 1) = ftF rs r p + rs (r (p + 1)).toInt.toNat (r p).toInt.toNat := rfl
theorem hiF_s (rs : Nat → Nat → Int32) (dp r : Nat → Int32) (n : Nat) : hiF rs dp r (n + 1) = if hiF rs dp r n < ftF rs r n + dp (r n).toInt.toNat then ftF rs r n + dp (r n).toInt.toNat else hiF rs dp r n := rfl
/-- what drawing the one at a level costs -/
def prC (wt r : Nat → Int32) (p n rc : Int32) : Int32 := wt (r p.toInt.toNat).toInt.toNat + rc + 2 * (wtF wt r (p.toInt.toNat + 1) n.toInt.toNat + rc * (n - 1 - p))
theorem prC_cong {wt wt' r r' : Nat → Int32} {p n rc : Int32} (h0 : 0 ≤ p.toInt) (hp : p.toInt < n.toInt) (h : ∀ q : Nat, (q : Int) < n.toInt → wt (r q).toInt.toNat = wt' (r' q).toInt.toNat) : prC wt r p n rc = prC wt' r' p n rc := by
  unfold prC
  rw [h p.toInt.toNat (by omega), wtF_cong (wt := wt) (wt' := wt') (r := r) (r' := r') _ (fun q _ h2 => h q (by omega))]

def IM (a b : Prop) : Prop := a → b
def OR2 (a b : Prop) : Prop := a ∨ b
theorem ROW.inj {sh st lv : Nat → Int32} {s k : Int32} {r : Nat → Int32} {n : Nat} (h : ROW sh st lv s k r n) {w v : Nat} (hw : w < 12) (hv : v < 12) (w1 : sh w = s) (w2 : st w = k) (v1 : sh v = s) (v2 : st v = k) (e : (lv w).toInt.toNat = (lv v).toInt.toNat) : w = v := by
  have a := (h.1 w hw w1 w2).2.2
  have b := (h.1 v hv v1 v2).2.2
  rw [e] at a; omega
/-- behind a removal: the stacks; behind a move: shelves and stacks -/
def rmS (sh st : Nat → Int32) (s k : Int32) (j : Nat) : Int := if cnB (std sh st s k) 12 = 0 then gpf sh st s k j else (st j).toInt
def mvS (sh st : Nat → Int32) (s k t : Int32) (j : Nat) : Int := if sh j = s ∧ st j = k then t.toInt else (sh j).toInt
def mvT (sh st : Nat → Int32) (s k c : Int32) (j : Nat) : Int := if sh j = s ∧ st j = k then c.toInt else (st j).toInt
def mvG (sh st : Nat → Int32) (s k t c : Int32) (j : Nat) : Int := if mvS sh st s k t j = s.toInt ∧ k.toInt < mvT sh st s k c j then mvT sh st s k c j - 1 else mvT sh st s k c j
theorem gpf_mv {sh st g1 g2 : Nat → Int32} {s k t c : Int32} {j : Nat} (h1 : (g1 j).toInt = mvS sh st s k t j) (h2 : (g2 j).toInt = mvT sh st s k c j) : gpf g1 g2 s k j = mvG sh st s k t c j := by
  unfold gpf mvG
  rw [h2]
  by_cases q : g1 j = s
  · have e : mvS sh st s k t j = s.toInt := by rw [← h1, q]
    by_cases z : k.toInt < mvT sh st s k c j
    · rw [if_pos ⟨q, z⟩, if_pos ⟨e, z⟩]
    · rw [if_neg (fun y => z y.2), if_neg (fun y => z y.2)]
  · rw [if_neg (fun y => q y.1), if_neg (fun y => q ((i_eq _ _).mpr (h1.trans y.1)))]
def rsS (sh st lv : Nat → Int32) (w j : Nat) : Int := if j = w then ((cnB (std sh st (sh w) (st w)) 12 : Nat) : Int) - 1 else snk sh st lv w j

/-- the reference's rows of what is told -/
def wtM (t : Nat → Int32) (j : Nat) : Int32 := t (3 + 8 * j + 2)
def brM (t : Nat → Int32) (j : Nat) : Int32 := t (3 + 8 * j + 3)
def dpM (t : Nat → Int32) (j : Nat) : Int32 := t (3 + 8 * j + 1)
def rsM (t : Nat → Int32) (u l : Nat) : Int32 := if (t (3 + 8 * u)).toInt < (t (3 + 8 * l)).toInt ∧ (t (3 + 8 * l + 6)).toInt = 0 then 1 else t (3 + 8 * l + 1)
/-- no such stack -/
def NST (r s k ns c : Int) : Prop := r = 0 → ¬ (0 ≤ s ∧ s < ns ∧ 0 ≤ k ∧ k < c)

/-- the first of the reasons; a guarded answer -/
def PUTR (ok out full : Prop) (R : Int → Prop) (x : Int) : Prop := (x = 1 ∧ ¬ ok) ∨ (ok ∧ ((x = 2 ∧ ¬ out) ∨ (out ∧ ((x = 3 ∧ full) ∨ (¬ full ∧ R x)))))
theorem PUTR.eq {ok ok' out out' full full' : Prop} {R R' : Int → Prop} {x y : Int} (a : PUTR ok out full R x) (b : PUTR ok' out' full' R' y) (h1 : ok ↔ ok') (h2 : ok → (out ↔ out')) (h3 : ok → out → (full ↔ full')) (h4 : ok → out → ¬ full → R x → R' y → x = y) : x = y := by
  rcases a with ⟨a1, a2⟩ | ⟨a2, ⟨a1, a3⟩ | ⟨a3, ⟨a1, a4⟩ | ⟨a4, a5⟩⟩⟩
  · rcases b with ⟨b1, b2⟩ | ⟨b2, _⟩
    · exact a1.trans b1.symm
    · exact absurd (h1.mpr b2) a2
  · rcases b with ⟨b1, b2⟩ | ⟨b2, ⟨b1, b3⟩ | ⟨b3, _⟩⟩
    · exact absurd (h1.mp a2) b2
    · exact a1.trans b1.symm
    · exact absurd ((h2 a2).mpr b3) a3
  · rcases b with ⟨b1, b2⟩ | ⟨b2, ⟨b1, b3⟩ | ⟨b3, ⟨b1, b4⟩ | ⟨b4, b5⟩⟩⟩
    · exact absurd (h1.mp a2) b2
    · exact absurd ((h2 a2).mp a3) b3
    · exact a1.trans b1.symm
    · exact absurd ((h3 a2 a3).mp a4) b4
  · rcases b with ⟨b1, b2⟩ | ⟨b2, ⟨b1, b3⟩ | ⟨b3, ⟨b1, b4⟩ | ⟨b4, b5⟩⟩⟩
    · exact absurd (h1.mp a2) b2
    · exact absurd ((h2 a2).mp a3) b3
    · exact absurd ((h3 a2 a3).mpr b4) a4
    · exact h4 a2 a3 a4 a5 b5
theorem PUTR.yes {ok out full : Prop} {R : Int → Prop} {x : Int} (h : PUTR ok out full R x) (h1 : ¬ x = 1) (h2 : ¬ x = 2) (h3 : ¬ x = 3) : ok ∧ out ∧ ¬ full ∧ R x := by
  rcases h with ⟨a1, _⟩ | ⟨a2, ⟨a1, _⟩ | ⟨a3, ⟨a1, _⟩ | ⟨a4, a5⟩⟩⟩
  · exact absurd a1 h1
  · exact absurd a1 h2
  · exact absurd a1 h3
  · exact ⟨a2, a3, a4, a5⟩
def RFP (c R : Prop) (x : Int) : Prop := (x = 3 ∧ c) ∨ (¬ c ∧ R)
def OKP (w s k nw ns c : Int) : Prop := (0 ≤ w ∧ w < nw) ∧ (0 ≤ s ∧ s < ns) ∧ -1 ≤ k ∧ k < c
def plc (k c : Int) : Int := if k = -1 then c else k
theorem RFZ.cg {M : Nat → Nat → Bool} {wt br dp : Nat → Int32} {rs : Nat → Nat → Int32} {q r : Nat → Int32} {m n : Nat} {h : Int32} {x : Int} (a : RFZ M wt br dp rs q m h x) (hm : m = n) (e : ∀ p, p < n → q p = r p) : RFZ M wt br dp rs r n h x := by
  subst hm
  exact a.cong rfl (fun p hp => by rw [e p (by omega), e (p + 1) hp]) (fun p hp => by rw [e p hp]) (fun p hp => by rw [e p hp]) (fun p hp => by rw [e p hp]) (fun p hp => by rw [e p (by omega), e (p + 1) hp])
def GRD (ok : Prop) (d : Int) (R : Int → Prop) (x : Int) : Prop := (x = d ∧ ¬ ok) ∨ (ok ∧ R x)
theorem GRD.eq {ok ok' : Prop} {d : Int} {R R' : Int → Prop} {x y : Int} (a : GRD ok d R x) (b : GRD ok' d R' y) (h1 : ok ↔ ok') (h2 : ok → R x → R' y → x = y) : x = y := by
  rcases a with ⟨a1, a2⟩ | ⟨a1, a2⟩
  · rcases b with ⟨b1, b2⟩ | ⟨b1, b2⟩
    · exact a1.trans b1.symm
    · exact absurd (h1.mpr b1) a2
  · rcases b with ⟨b1, b2⟩ | ⟨b1, b2⟩
    · exact absurd (h1.mp a1) b2
    · exact h2 a1 a2 b2
/-- a stack is there -/
def YST (r s k ns c : Int) : Prop := r = 1 → 0 ≤ s ∧ s < ns ∧ 0 ≤ k ∧ k < c

/-- what is answered of a stack, of where a ware is, of a shelf -/
def skF (p n h w : Int) : Int := if p = 0 then n else if p = 1 then h else if p = 2 then w else -1
def whF (p a b c d e : Int) : Int := if p = 0 then a else if p = 1 then b else if p = 2 then c else if p = 3 then d else if p = 4 then e else -1
def shF (p a b c d : Int) : Int := if p = 0 then a else if p = 1 then b else if p = 2 then c else if p = 3 then d else -1
def coF (p a b c d e f : Int) : Int := if p = 0 then a else if p = 1 then b else if p = 2 then c else if p = 3 then d else if p = 4 then e else if p = 5 then f else -1
def atF (p : Int32) (r : Nat → Int32) (n : Int) : Int := if 0 ≤ p.toInt ∧ p.toInt < n then (r p.toInt.toNat).toInt else -1

/-- what drawing the one at q costs, as the reference adds it up -/
def lcF (wt r : Nat → Int32) (rc : Int32) (q : Nat) : Nat → Int32
  | 0 => 0
  | n + 1 => if q ≤ n then lcF wt r rc q n + (if n = q then 1 else 2) * (wt (r n).toInt.toNat + rc) else 0
theorem lcF_s (wt r : Nat → Int32) (rc : Int32) (q n : Nat) : lcF wt r rc q (n + 1) = if q ≤ n then lcF wt r rc q n + (if n = q then 1 else 2) * (wt (r n).toInt.toNat + rc) else 0 := rfl
theorem lcF_0 (wt r : Nat → Int32) (rc : Int32) {q n : Nat} (h : n ≤ q) : lcF wt r rc q n = 0 := by
  cases n with
  | zero => rfl
  | succ n => exact if_neg (by omega)
theorem lcF_cong {wt wt' r r' : Nat → Int32} {rc : Int32} {q : Nat} : ∀ n, (∀ p, q ≤ p → p < n → wt (r p).toInt.toNat = wt' (r' p).toInt.toNat) → lcF wt r rc q n = lcF wt' r' rc q n := by
  intro n
  induction n with
  | zero => intro _; rfl
  | succ n ih =>
    intro h
    rw [lcF_s, lcF_s]
    by_cases z : q ≤ n
    · rw [if_pos z, if_pos z, ih (fun p h1 h2 => h p h1 (by omega)), h n z (by omega)]
    · rw [if_neg z, if_neg z]
theorem rg_1 (w c m p a : Int32) : a = 0 → m = p → w + c + 2 * (a + c * (m + 1 - 1 - p)) = 0 + 1 * (w + c) := by
  intro h1 h2; subst h1; subst h2; grind
theorem rg_2 (w c m p a b : Int32) : w + c + 2 * ((a + b) + c * (m + 1 - 1 - p)) = (w + c + 2 * (a + c * (m - 1 - p))) + 2 * (b + c) := by grind

/-- a sum of n numbers, the j-th one as P says -/
def SR (P : Nat → Int32 → Prop) : Nat → Int32 → Prop
  | 0, x => x = 0
  | n + 1, x => ∃ y z : Int32, SR P n y ∧ P n z ∧ x = y + z
theorem SR.zero {P : Nat → Int32 → Prop} {n : Nat} {x : Int32} (hn : n = 0) (hx : x = 0) : SR P n x := by subst hn; exact hx
theorem SR.step {P : Nat → Int32 → Prop} {n m : Nat} {x y z : Int32} (h : SR P n y) (hm : m = n + 1) (hz : P n z) (e : x = y + z) : SR P m x := by subst hm; exact ⟨y, z, h, hz, e⟩
theorem SR.skip {P : Nat → Int32 → Prop} {n m : Nat} {x : Int32} (h : SR P n x) (hm : m = n + 1) (hz : P n 0) : SR P m x := h.step hm hz (Int32.add_zero x).symm
theorem SR.uniq {P Q : Nat → Int32 → Prop} : ∀ (n : Nat) (x y : Int32), (∀ j : Nat, j < n → ∀ a b : Int32, P j a → Q j b → a = b) → SR P n x → SR Q n y → x = y := by
  intro n
  induction n with
  | zero => intro x y _ h1 h2; exact (show x = 0 from h1).trans (show y = 0 from h2).symm
  | succ n ih =>
    intro x y h h1 h2
    obtain ⟨a, b, h3, h4, h5⟩ := h1
    obtain ⟨c, d, h6, h7, h8⟩ := h2
    rw [h5, h8, ih a c (fun j hj => h j (by omega)) h3 h6, h n (by omega) b d h4 h7]
/-- what lifting a ware costs: the class; nothing if it is out -/
def pAC (wt rc sh st lv : Nat → Int32) (w : Nat) (z : Int32) : Prop := ((sh w).toInt = -1 ∧ z = 0) ∨ (¬ (sh w).toInt = -1 ∧ ∀ (r : Nat → Int32) (n : Nat), ROW sh st lv (sh w) (st w) r n → z = prC wt r (lv w) (nI n) (rc (sh w).toInt.toNat))
def pAA (wt rc sh st lv as : Nat → Int32) (j : Nat) (z : Int32) : Prop := pAC wt rc sh st lv (as j).toInt.toNat z
def pHC (hb wt rc sh st lv : Nat → Int32) (j : Nat) (z : Int32) : Prop := ∃ y : Int32, pAC wt rc sh st lv j y ∧ z = hb j * y
theorem pHC.out {hb wt rc sh st lv : Nat → Int32} {j : Nat} (h : (sh j).toInt = -1) : pHC hb wt rc sh st lv j 0 := ⟨0, Or.inl ⟨h, rfl⟩, by rw [Int32.mul_zero]⟩
def sumF (h : Nat → Int32) : Nat → Int32
  | 0 => 0
  | n + 1 => sumF h n + h n
theorem sumF_s (h : Nat → Int32) (n : Nat) : sumF h (n + 1) = sumF h n + h n := rfl
theorem sumF_cong {h h' : Nat → Int32} : ∀ n, (∀ j, j < n → h j = h' j) → sumF h n = sumF h' n := by
  intro n
  induction n with
  | zero => intro _; rfl
  | succ n ih => intro e; rw [sumF_s, sumF_s, ih (fun j hj => e j (by omega)), e n (by omega)]
/-- the greatest common divisor's rounds -/
def eu : Nat → Int32 → Int32 → Int32
  | 0, a, _ => a
  | n + 1, a, b => if b = 0 then a else eu n b (a - a / b * b)
theorem eu_z (a : Int32) : ∀ n, eu n a 0 = a := by
  intro n
  cases n with
  | zero => rfl
  | succ n => exact if_pos rfl
theorem eu_s {n : Nat} {a b : Int32} (h : ¬ b = 0) : eu (n + 1) a b = eu n b (a - a / b * b) := if_neg h
/-- from a, b the rounds have come to x, y -/
def EUK (a b x y : Int32) : Prop := ∃ k : Nat, ∀ n : Nat, eu (n + k) a b = eu n x y
theorem EUK.rf (a b : Int32) : EUK a b a b := ⟨0, fun n => rfl⟩
theorem EUK.step {a b x y z : Int32} (h : EUK a b x y) (hy : ¬ y = 0) (e : x - x / y * y = z) : EUK a b y z := by
  obtain ⟨k, h⟩ := h
  refine ⟨k + 1, fun n => ?_⟩
  rw [show n + (k + 1) = n + 1 + k by omega, h (n + 1), eu_s hy, e]
theorem remP9 {x y z : Int32} (e : x - x / y * y = z) (hx : 0 ≤ x.toInt) (hy : 0 < y.toInt) : 0 ≤ z.toInt ∧ z.toInt < y.toInt ∧ (y.toInt ≤ x.toInt → z.toInt + y.toInt ≤ x.toInt) := by
  have bx := i_bd x
  have q0 : 0 ≤ x.toInt.tdiv y.toInt := Int.tdiv_nonneg hx (by omega)
  have q1 : x.toInt.tdiv y.toInt ≤ x.toInt := Int.tdiv_le_self _ hx
  have d : (x / y).toInt = x.toInt.tdiv y.toInt := by
    rw [Int32.toInt_div]; exact fb_bmod (by omega) (by omega)
  have r0 : 0 ≤ x.toInt.tmod y.toInt := Int.tmod_nonneg _ hx
  have r1 : x.toInt.tmod y.toInt < y.toInt := Int.tmod_lt_of_pos _ hy
  have s : y.toInt * x.toInt.tdiv y.toInt + x.toInt.tmod y.toInt = x.toInt := Int.mul_tdiv_add_tmod _ _
  have q2 : 0 ≤ y.toInt * x.toInt.tdiv y.toInt := Int.mul_nonneg (by omega) q0
  have m : (x / y * y).toInt = y.toInt * x.toInt.tdiv y.toInt := by
    rw [fb_mulI (by rw [d, Int.mul_comm]; omega) (by rw [d, Int.mul_comm]; omega), d, Int.mul_comm]
  rw [← e, fb_subI (by rw [m]; omega) (by rw [m]; omega), m]
  refine ⟨by omega, by omega, fun hyx => ?_⟩
  have q3 : 1 ≤ x.toInt.tdiv y.toInt := by
    rcases Int.lt_or_le 0 (x.toInt.tdiv y.toInt) with q | q
    · omega
    · exfalso
      have z : x.toInt.tdiv y.toInt = 0 := by omega
      rw [z, Int.mul_zero] at s; omega
  have q4 : y.toInt * 1 ≤ y.toInt * x.toInt.tdiv y.toInt := Int.mul_le_mul_of_nonneg_left q3 (by omega)
  omega
theorem eu_fix : ∀ (m : Nat) (a b : Int32), 0 ≤ a.toInt → 0 ≤ b.toInt → b.toInt < 2 ^ m → ∀ n, eu (n + 2 * m) a b = eu (2 * m) a b := by
  intro m
  induction m with
  | zero =>
    intro a b _ h0 h1 n
    have e : b = 0 := (i_eq _ _).mpr (by have z : (0 : Int32).toInt = 0 := rfl; omega)
    rw [e, eu_z, eu_z]
  | succ m ih =>
    intro a b ha h0 h1 n
    by_cases e : b = 0
    · rw [e, eu_z, eu_z]
    · have l0 : (0 : Int32).toInt = 0 := rfl
      have b0 : 0 < b.toInt := by rw [i_eq] at e; omega
      obtain ⟨r, er⟩ : ∃ r, a - a / b * b = r := ⟨_, rfl⟩
      have hr := remP9 er ha b0
      rw [show n + 2 * (m + 1) = n + 2 * m + 1 + 1 by omega, show 2 * (m + 1) = 2 * m + 1 + 1 by omega, eu_s e, eu_s e, er]
      by_cases z : r = 0
      · rw [z, eu_z, eu_z]
      · have r0 : 0 < r.toInt := by rw [i_eq] at z; omega
        obtain ⟨r', er'⟩ : ∃ r', b - b / r * r = r' := ⟨_, rfl⟩
        have hr' := remP9 er' h0 r0
        have h3 := hr'.2.2 (by omega)
        rw [eu_s z, eu_s z, er']
        have e2 : (2 : Int) ^ (m + 1) = 2 ^ m * 2 := Int.pow_succ ..
        exact ih r r' (by omega) hr'.1 (by omega) n
/-- both come to the same: at most 64 rounds are needed -/
theorem eu_64 {a b d : Int32} (ha : 0 ≤ a.toInt) (h0 : 0 ≤ b.toInt) (h1 : b.toInt ≤ 11988) (h : EUK a b d 0) : eu 64 a b = d := by
  obtain ⟨k, h⟩ := h
  have y := h 28
  rw [eu_z, show 28 + k = k + 2 * 14 by omega, eu_fix 14 a b ha h0 (by have : (2 : Int) ^ 14 = 16384 := rfl; omega)] at y
  rw [show 64 = 36 + 2 * 14 from rfl, eu_fix 14 a b ha h0 (by have : (2 : Int) ^ 14 = 16384 := rfl; omega)]
  exact y
/-- by habit: what is answered -/
def haC (p : Int32) (ab be : Int32) (x : Int) : Prop := GRD (¬ be = 0 ∧ 0 ≤ p.toInt ∧ p.toInt ≤ 1) (-1) (fun x => (eu 64 ab be = 0 ∧ x = -1) ∨ (¬ eu 64 ab be = 0 ∧ x = ((if p = 0 then ab else be) / eu 64 ab be).toInt)) x
def haM (p : Int32) (ab be : Int32) (x : Int) : Prop := GRD (¬ be = 0 ∧ 0 ≤ p.toInt ∧ p.toInt ≤ 1) (-1) (fun x => ∃ d : Int32, EUK ab be d 0 ∧ ¬ d = 0 ∧ x = ((if p = 0 then ab else be) / d).toInt) x
theorem ha_eq {p ab be : Int32} {x y : Int} (a : haC p ab be x) (b : haM p ab be y) (ha : 0 ≤ ab.toInt) (h0 : 0 ≤ be.toInt) (h1 : be.toInt ≤ 11988) : x = y :=
  GRD.eq a b Iff.rfl (fun _ a b => by
    obtain ⟨d, b1, b2, b3⟩ := b
    have e := eu_64 ha h0 h1 b1
    rcases a with ⟨a1, _⟩ | ⟨_, a2⟩
    · rw [e] at a1; exact absurd a1 b2
    · rw [a2, b3, e])
