/-- the first place with the number 0 in the row of sorts, at most 1001 -/
def eF (f : Nat → Int32) : Nat → Nat → Nat
  | 0, i => i
  | n + 1, i => if f i = 0 then i else eF f n (i + 1)
def eN (f : Nat → Int32) : Nat := eF f 1001 0
theorem eF_le {f : Nat → Int32} {m : Nat} (h : f m = 0) : ∀ n i, i ≤ m → m ≤ i + n → eF f n i ≤ m := by
  intro n
  induction n with
  | zero => intro i h1 h2; show i ≤ m; omega
  | succ n ih =>
    intro i h1 h2
    show (if f i = 0 then i else eF f n (i + 1)) ≤ m
    by_cases q : f i = 0
    · rw [if_pos q]; exact h1
    · rw [if_neg q]
      have : i ≠ m := fun z => q (z ▸ h)
      exact ih (i + 1) (by omega) (by omega)
theorem eN_le {f : Nat → Int32} {m : Nat} (h : f m = 0) (hm : m ≤ 1000) : eN f ≤ 1000 := Nat.le_trans (eF_le h 1001 0 (by omega) (by omega)) hm
theorem eF_at {f : Nat → Int32} : ∀ n i, eF f n i < i + n → f (eF f n i) = 0 := by
  intro n
  induction n with
  | zero => intro i h; exact absurd (show i < i + 0 from h) (by omega)
  | succ n ih =>
    intro i h
    by_cases q : f i = 0
    · have e : eF f (n + 1) i = i := by show (if f i = 0 then i else eF f n (i + 1)) = i; rw [if_pos q]
      rw [e]; exact q
    · have e : eF f (n + 1) i = eF f n (i + 1) := by show (if f i = 0 then i else eF f n (i + 1)) = _; rw [if_neg q]
      rw [e] at h ⊢; exact ih (i + 1) (by omega)
theorem eN_rd {f : Nat → Int32} {x v : Int32} (e : f x.toInt.toNat = v) (h0 : eN f ≤ 1000) (h : 0 ≤ x.toInt ∧ x.toInt ≤ ((eN f : Nat) : Int)) : v.toInt = 0 ∨ x.toInt < ((eN f : Nat) : Int) := by
  rcases Int.lt_or_le x.toInt ((eN f : Nat) : Int) with q | q
  · exact Or.inr q
  · have h1 : x.toInt.toNat = eN f := by omega
    have h2 : f (eN f) = 0 := eF_at 1001 0 (by show eN f < 0 + 1001; omega)
    rw [h1, h2] at e
    rw [← e]; exact Or.inl rfl
def hiT (j : Nat) : Int := if j % 120 = 0 then 12 else if j % 120 < 3 then 4 else if j % 120 < 99 then 999 else if j % 120 < 111 then (if (j % 120 - 99) % 3 = 2 then 8 else 999) else 1000
/-- what is told: each place has its bound -/
def TV (f : Nat → Int32) : Prop := ∀ j, j < 240 → 0 ≤ (f j).toInt ∧ (f j).toInt ≤ hiT j
theorem hiT_0 (j : Nat) : 0 ≤ hiT j := by unfold hiT; (repeat' split) <;> omega
theorem hiT_any (j : Nat) : hiT j ≤ 1000 := by unfold hiT; (repeat' split) <;> omega
theorem TV_const : TV (fun _ => 0) := fun j _ => ⟨(show (0 : Int) ≤ (0 : Int32).toInt by decide), hiT_0 j⟩
theorem TV.any {f : Nat → Int32} (h : TV f) {j : Nat} (hj : j < 240) : 0 ≤ (f j).toInt ∧ (f j).toInt ≤ 1000 := ⟨(h j hj).1, Int.le_trans (h j hj).2 (hiT_any j)⟩
theorem hiT_k {j : Nat} (hj : 3 ≤ j % 120 ∧ (j % 120 < 99 ∨ j % 120 < 111 ∧ (j % 120 - 99) % 3 < 2)) : 999 ≤ hiT j := by unfold hiT; (repeat' split) <;> omega
theorem hiT_k2 {j : Nat} (hj : 3 ≤ j % 120 ∧ j % 120 < 111) : hiT j ≤ 999 := by unfold hiT; (repeat' split) <;> omega
theorem TV.k {f : Nat → Int32} (h : TV f) {j : Nat} (hj : j < 240) (hk : 3 ≤ j % 120 ∧ j % 120 < 111) : 0 ≤ (f j).toInt ∧ (f j).toInt ≤ 999 := ⟨(h j hj).1, Int.le_trans (h j hj).2 (hiT_k2 hk)⟩
theorem hiT_room {j : Nat} (hj : 99 ≤ j % 120 ∧ j % 120 < 111 ∧ (j % 120 - 99) % 3 = 2) : hiT j = 8 := by unfold hiT; (repeat' split) <;> omega
theorem hiT_nest {j : Nat} (hj : 111 ≤ j % 120) : hiT j = 1000 := by unfold hiT; (repeat' split) <;> omega
theorem TV.room {f : Nat → Int32} (h : TV f) {j : Nat} (hj : j < 240) (hk : 99 ≤ j % 120 ∧ j % 120 < 111 ∧ (j % 120 - 99) % 3 = 2) : 0 ≤ (f j).toInt ∧ (f j).toInt ≤ 8 := by have := h j hj; rw [hiT_room hk] at this; exact this
theorem TV.upd {f : Nat → Int32} {k : Nat} {x : Int32} (h : TV f) (h1 : 0 ≤ x.toInt) (h2 : x.toInt ≤ hiT k) : TV (upd f k x) := fun j hj => by
  by_cases e : j = k
  · subst e; rw [pk_us]; exact ⟨h1, h2⟩
  · rw [pk_un e]; exact h j hj
theorem l2i_rng {x : Int64} {lo hi : Int32} (h1 : ¬ x < lo.toInt64) (h2 : x < hi.toInt64 ∨ x = hi.toInt64) : lo.toInt ≤ x.toInt32.toInt ∧ x.toInt32.toInt ≤ hi.toInt := by
  have a1 : ¬ x.toInt < lo.toInt := fun q => h1 (Int64.lt_iff_toInt_lt.mpr (by rw [Int32.toInt_toInt64]; exact q))
  have a2 : x.toInt ≤ hi.toInt := by
    rcases h2 with q | q
    · have := Int64.lt_iff_toInt_lt.mp q; rw [Int32.toInt_toInt64] at this; omega
    · rw [q, Int32.toInt_toInt64]; exact Int.le_refl _
  have b1 := i_bd lo; have b2 := i_bd hi
  have e : x.toInt32.toInt = x.toInt := by rw [Int64.toInt_toInt32]; exact fb_bmod (by omega) (by omega)
  rw [e]; omega
/-- whether a sign, or a word, is at hand -/
def sgnI (fa so : Int32) (va : Int64) (c : Int32) : Int := if fa = 0 ∧ so = 3 ∧ va = c.toInt64 then 1 else 0
def wrdI (fa so : Int32) (va wd : Int64) : Int := if fa = 0 ∧ so = 1 ∧ va = wd then 1 else 0
theorem sgnI_01 (fa so : Int32) (va : Int64) (c : Int32) : 0 ≤ sgnI fa so va c ∧ sgnI fa so va c ≤ 1 := by unfold sgnI; split <;> omega
theorem wrdI_01 (fa so : Int32) (va wd : Int64) : 0 ≤ wrdI fa so va wd ∧ wrdI fa so va wd ≤ 1 := by unfold wrdI; split <;> omega

/-- the rows of tokens hold the table T -/
def RWS (so pl : Nat → Int32) (va : Nat → Int64) (T : Nat → Int × Int64 × Nat) : Prop := ∀ a, a ≤ eN so → (so a).toInt = (T (pl a).toInt.toNat).1 ∧ ((so a).toInt = 1 ∨ (so a).toInt = 2 ∨ (so a).toInt = 3 → va a = (T (pl a).toInt.toNat).2.1) ∧ (a < eN so → (pl (a + 1)).toInt = (((T (pl a).toInt.toNat).2.2 : Nat) : Int))
def WRD (w : Nat → Int64) : Prop := ∀ k, k < 23 → w k = WN k
def FWN (k : Nat) : Nat := [17, 18, 19, 7, 20, 21, 1, 22].getD k 0
def FWD (f : Nat → Int32) : Prop := ∀ k, k < 8 → (f k).toInt = ((FWN k : Nat) : Int)
/-- a sign, a word at hand if there is no FAULT -/
def gE (fa : Int) (T : Nat → Int × Int64 × Nat) (p : Nat) (c : Int32) : Int := if fa = 0 then gI T p c else 0
def wE (fa : Int) (T : Nat → Int × Int64 × Nat) (p k : Nat) : Int := if fa = 0 then wI T p (WN k) else 0
theorem gE_z {fa : Int} {T : Nat → Int × Int64 × Nat} {p : Nat} {c : Int32} (h : fa = 0) : gE fa T p c = gI T p c := if_pos h
theorem wE_z {fa : Int} {T : Nat → Int × Int64 × Nat} {p k : Nat} (h : fa = 0) : wE fa T p k = wI T p (WN k) := if_pos h
theorem gE_n {fa : Int} {T : Nat → Int × Int64 × Nat} {p : Nat} {c : Int32} (h : ¬ fa = 0) : gE fa T p c = 0 := if_neg h
theorem wE_n {fa : Int} {T : Nat → Int × Int64 × Nat} {p k : Nat} (h : ¬ fa = 0) : wE fa T p k = 0 := if_neg h
theorem wE_01 {fa : Int} {T : Nat → Int × Int64 × Nat} {p k : Nat} : wE fa T p k = 0 ∨ wE fa T p k = 1 := by
  by_cases q : fa = 0
  · rw [wE_z q]; exact wI_01 _ _ _
  · exact Or.inl (wE_n q)
theorem sg_T {so pl : Nat → Int32} {va : Nat → Int64} {T : Nat → Int × Int64 × Nat} {fa at_ c : Int32} (h : RWS so pl va T) (h0 : 0 ≤ at_.toInt) (h1 : at_.toInt ≤ ((eN so : Nat) : Int)) : sgnI fa (so at_.toInt.toNat) (va at_.toInt.toNat) c = gE fa.toInt T (pl at_.toInt.toNat).toInt.toNat c := by
  obtain ⟨a, b, _⟩ := h at_.toInt.toNat (by omega)
  unfold sgnI gE gI
  by_cases q0 : fa = 0
  · rw [if_pos (show fa.toInt = 0 by rw [q0]; rfl)]
    by_cases q1 : so at_.toInt.toNat = 3
    · have a3 : (so at_.toInt.toNat).toInt = 3 := by rw [q1]; rfl
      have b3 := b (Or.inr (Or.inr a3))
      by_cases q2 : va at_.toInt.toNat = c.toInt64
      · rw [if_pos ⟨q0, q1, q2⟩, if_pos (show isG T (pl at_.toInt.toNat).toInt.toNat c = true from decide_eq_true ⟨a.symm.trans a3, b3.symm.trans q2⟩)]
      · rw [if_neg (fun z => q2 z.2.2), if_neg (fun z => q2 (b3.trans (of_decide_eq_true z).2))]
    · rw [if_neg (fun z => q1 z.2.1), if_neg (fun z => q1 ((i_eq _ _).mpr (a.trans (of_decide_eq_true z).1)))]
  · rw [if_neg (fun z => q0 z.1), if_neg (show ¬ fa.toInt = 0 from fun z => q0 ((i_eq _ _).mpr z))]
theorem wd_T {so pl : Nat → Int32} {va : Nat → Int64} {T : Nat → Int × Int64 × Nat} {fa at_ : Int32} {wd : Int64} {k : Nat} (h : RWS so pl va T) (h0 : 0 ≤ at_.toInt) (h1 : at_.toInt ≤ ((eN so : Nat) : Int)) (hw : wd = WN k) : wrdI fa (so at_.toInt.toNat) (va at_.toInt.toNat) wd = wE fa.toInt T (pl at_.toInt.toNat).toInt.toNat k := by
  obtain ⟨a, b, _⟩ := h at_.toInt.toNat (by omega)
  unfold wrdI wE wI
  rw [hw]
  by_cases q0 : fa = 0
  · rw [if_pos (show fa.toInt = 0 by rw [q0]; rfl)]
    by_cases q1 : so at_.toInt.toNat = 1
    · have a3 : (so at_.toInt.toNat).toInt = 1 := by rw [q1]; rfl
      have b3 := b (Or.inl a3)
      by_cases q2 : va at_.toInt.toNat = WN k
      · rw [if_pos ⟨q0, q1, q2⟩, if_pos (show isW T (pl at_.toInt.toNat).toInt.toNat (WN k) = true from decide_eq_true ⟨a.symm.trans a3, b3.symm.trans q2⟩)]
      · rw [if_neg (fun z => q2 z.2.2), if_neg (fun z => q2 (b3.trans (of_decide_eq_true z).2))]
    · rw [if_neg (fun z => q1 z.2.1), if_neg (fun z => q1 ((i_eq _ _).mpr (a.trans (of_decide_eq_true z).1)))]
  · rw [if_neg (fun z => q0 z.1), if_neg (show ¬ fa.toInt = 0 from fun z => q0 ((i_eq _ _).mpr z))]
/-- a step of the reference's reader, and the pure one -/
def RP (pl : Nat → Int32) (fa at_ fa' at' : Int) (g : Nat → Nat × Int) : Prop := (fa = 0 → fa' = (g (pl at_.toNat).toInt.toNat).2 ∧ (fa' = 0 → (pl at'.toNat).toInt = (((g (pl at_.toNat).toInt.toNat).1 : Nat) : Int))) ∧ (¬ fa = 0 → fa' = fa)
theorem RP.wr {pl : Nat → Int32} {fa at_ fa' at' : Int} {g : Nat → Nat × Int} (k : Int) (h1 : fa = 0 → fa' = k + 16 * (pl at_.toNat).toInt) (h2 : ¬ fa = 0 → fa' = fa) (h0 : 0 ≤ (pl at_.toNat).toInt) (hk : 1 ≤ k) (hg : fa = 0 → g (pl at_.toNat).toInt.toNat = flt k (pl at_.toNat).toInt.toNat) : RP pl fa at_ fa' at' g := ⟨fun z => by
  rw [hg z]
  have e : (flt k (pl at_.toNat).toInt.toNat).2 = k + 16 * (((pl at_.toNat).toInt.toNat : Nat) : Int) := rfl
  rw [e]
  have h3 := h1 z
  exact ⟨by omega, fun q => absurd q (by omega)⟩, h2⟩
theorem RP.go {so pl : Nat → Int32} {va : Nat → Int64} {T : Nat → Int × Int64 × Nat} {fa at_ fa' at' : Int} {g : Nat → Nat × Int} (hR : RWS so pl va T) (h0 : 0 ≤ at_) (hb : at_ < ((eN so : Nat) : Int)) (hf : fa' = fa) (ha : at' = at_ + 1) (hg : fa = 0 → g (pl at_.toNat).toInt.toNat = (nx T (pl at_.toNat).toInt.toNat, 0)) : RP pl fa at_ fa' at' g := ⟨fun z => by
  rw [hg z]
  have e : at'.toNat = at_.toNat + 1 := by omega
  exact ⟨hf.trans z, fun _ => by rw [e]; exact (hR at_.toNat (by omega)).2.2 (by omega)⟩, fun _ => hf⟩
theorem RP.bind {pl : Nat → Int32} {fa at_ fa1 at1 fa2 at2 : Int} {g h : Nat → Nat × Int} (h1 : RP pl fa at_ fa1 at1 g) (h2 : RP pl fa1 at1 fa2 at2 h) : RP pl fa at_ fa2 at2 (fun p => bnd (g p) h) := by
  refine ⟨fun z => ?_, fun z => ?_⟩
  · obtain ⟨a, b⟩ := h1.1 z
    by_cases q : fa1 = 0
    · have e : g (pl at_.toNat).toInt.toNat = ((pl at1.toNat).toInt.toNat, 0) := by
        have b' := b q
        have e2 : (pl at1.toNat).toInt.toNat = (g (pl at_.toNat).toInt.toNat).1 := by omega
        rw [e2]; exact Prod.ext rfl (a.symm.trans q)
      show fa2 = (bnd (g (pl at_.toNat).toInt.toNat) h).2 ∧ (fa2 = 0 → _ = (((bnd (g (pl at_.toNat).toInt.toNat) h).1 : Nat) : Int))
      rw [bnd_ok e]; exact h2.1 q
    · have e := h2.2 q
      have n : ¬ (g (pl at_.toNat).toInt.toNat).2 = 0 := fun z2 => q (a.trans z2)
      show fa2 = (bnd (g (pl at_.toNat).toInt.toNat) h).2 ∧ (fa2 = 0 → _ = (((bnd (g (pl at_.toNat).toInt.toNat) h).1 : Nat) : Int))
      rw [bnd_bad n]; exact ⟨e.trans a, fun z2 => absurd (e.symm.trans z2) q⟩
  · have a := h1.2 z
    exact (h2.2 (by omega)).trans a
theorem RP.mv {pl : Nat → Int32} {fa at_ fa' at' : Int} {g g' : Nat → Nat × Int} (h : RP pl fa at_ fa' at' g) (e : fa = 0 → g' (pl at_.toNat).toInt.toNat = g (pl at_.toNat).toInt.toNat) : RP pl fa at_ fa' at' g' := ⟨fun z => by rw [e z]; exact h.1 z, h.2⟩
theorem RP.to {pl : Nat → Int32} {fa at_ fa' at' at2 : Int} {g : Nat → Nat × Int} (h : RP pl fa at_ fa' at' g) (e : at2 = at') : RP pl fa at_ fa' at2 g := e ▸ h
theorem RP.bad {pl : Nat → Int32} {fa at_ fa' at' : Int} {g : Nat → Nat × Int} (h : ¬ fa = 0) (e : fa' = fa) : RP pl fa at_ fa' at' g := ⟨fun z => absurd z h, fun _ => e⟩
theorem RP.id {pl : Nat → Int32} {fa at_ fa' at' : Int} {g : Nat → Nat × Int} (e : fa' = fa) (ea : at' = at_) (hg : fa = 0 → g (pl at_.toNat).toInt.toNat = ((pl at_.toNat).toInt.toNat, 0)) (h0 : 0 ≤ (pl at_.toNat).toInt) : RP pl fa at_ fa' at' g := ⟨fun z => by rw [hg z, ea]; exact ⟨e.trans z, fun _ => by show _ = (((pl at_.toNat).toInt.toNat : Nat) : Int); omega⟩, fun _ => e⟩
def rWrd (T : Nat → Int × Int64 × Nat) (k p : Nat) : Nat × Int := if isW T p (WN k) = true then (nx T p, 0) else flt 1 p
theorem rAmt_b {T : Nat → Int × Int64 × Nat} {k p : Nat} {lo hi : Int} : rAmt T (WN k) lo hi p = bnd (rWrd T k p) (rNum T lo hi) := by
  unfold rAmt rWrd
  by_cases q : isW T p (WN k) = true
  · rw [if_pos q, if_pos q, bnd_ok rfl]
  · rw [if_neg q, if_neg q, bnd_bad (flt_ne (by decide))]
/-- a chain of the reference under way -/
def CK (T : Nat → Int × Int64 × Nat) (sub : Nat → Nat × Int) (jn : Nat → Bool) (p : Nat) (R : Nat × Int) : Prop := ∃ k, 1000 ≤ k + p ∧ chn sub (nx T) jn k (p, 0) = R
def RH (T : Nat → Int × Int64 × Nat) (sub : Nat → Nat × Int) (jn : Nat → Bool) (pl : Nat → Int32) (fa0 fa at_ : Int) (R : Nat × Int) : Prop := (fa0 = 0 → (fa = 0 → CK T sub jn (pl at_.toNat).toInt.toNat R) ∧ (¬ fa = 0 → R.2 = fa)) ∧ (¬ fa0 = 0 → fa = fa0)
theorem RH.start {T : Nat → Int × Int64 × Nat} {sub : Nat → Nat × Int} {jn : Nat → Bool} {pl : Nat → Int32} {fa0 at0 fa at_ : Int} (h : RP pl fa0 at0 fa at_ sub) : RH T sub jn pl fa0 fa at_ (chn sub (nx T) jn 1000 (sub (pl at0.toNat).toInt.toNat)) := ⟨fun z => by
  obtain ⟨a, b⟩ := h.1 z
  refine ⟨fun q => ⟨1000, by omega, ?_⟩, fun q => ?_⟩
  · have e : sub (pl at0.toNat).toInt.toNat = ((pl at_.toNat).toInt.toNat, 0) := by
      have b' := b q
      have e2 : (pl at_.toNat).toInt.toNat = (sub (pl at0.toNat).toInt.toNat).1 := by omega
      rw [e2]; exact Prod.ext rfl (a.symm.trans q)
    rw [e]
  · rw [chn_bad (fun z2 => q (a.trans z2))]; exact a.symm, h.2⟩
theorem RH.step {T : Nat → Int × Int64 × Nat} {sub : Nat → Nat × Int} {jn : Nat → Bool} {pl : Nat → Int32} {fa0 fa at_ fa1 at1 fa' at' : Int} {R : Nat × Int} (hT : PT T) (hs : ∀ q, (sub q).2 = 0 → q < (sub q).1) (hj : ∀ q, jn q = true → q < 1000 ∧ q < nx T q) (h : RH T sub jn pl fa0 fa at_ R) (hf : fa = 0) (hjn : jn (pl at_.toNat).toInt.toNat = true) (h1 : RP pl fa at_ fa1 at1 (fun p => (nx T p, 0))) (h2 : RP pl fa1 at1 fa' at' sub) : RH T sub jn pl fa0 fa' at' R := by
  refine ⟨fun z => ?_, fun z => absurd (hf.symm.trans (h.2 z)) (fun e => z e.symm)⟩
  obtain ⟨k, k1, k2⟩ := (h.1 z).1 hf
  obtain ⟨a, b⟩ := h1.1 hf
  have a0 : fa1 = 0 := a
  obtain ⟨c, d⟩ := h2.1 a0
  have e1 : (pl at1.toNat).toInt.toNat = nx T (pl at_.toNat).toInt.toNat := by
    have b' := b a0
    have b2 : (pl at1.toNat).toInt = ((nx T (pl at_.toNat).toInt.toNat : Nat) : Int) := b'
    omega
  have j1 := hj _ hjn
  obtain ⟨m, rfl⟩ : ∃ m, k = m + 1 := ⟨k - 1, by omega⟩
  rw [chn_go hjn, ← e1] at k2
  refine ⟨fun q => ?_, fun q => ?_⟩
  · have d' := d q
    have g : (sub (pl at1.toNat).toInt.toNat).2 = 0 := c.symm.trans q
    have g2 := hs _ g
    have e2 : sub (pl at1.toNat).toInt.toNat = ((pl at'.toNat).toInt.toNat, 0) := by
      have e3 : (pl at'.toNat).toInt.toNat = (sub (pl at1.toNat).toInt.toNat).1 := by omega
      rw [e3]; exact Prod.ext rfl g
    rw [e2] at k2
    exact ⟨m, by omega, k2⟩
  · rw [chn_bad (fun z2 => q (c.trans z2))] at k2
    rw [← k2]; exact c.symm
theorem RH.stop {T : Nat → Int × Int64 × Nat} {sub : Nat → Nat × Int} {jn : Nat → Bool} {pl : Nat → Int32} {fa0 at0 fa at_ at' : Int} {g : Nat → Nat × Int} (h : RH T sub jn pl fa0 fa at_ (g (pl at0.toNat).toInt.toNat)) (ha : at' = at_) (h0 : 0 ≤ (pl at_.toNat).toInt) (hj : fa = 0 → ¬ jn (pl at_.toNat).toInt.toNat = true) : RP pl fa0 at0 fa at' g := by
  subst ha
  refine ⟨fun z => ?_, h.2⟩
  by_cases q : fa = 0
  · obtain ⟨k, _, k2⟩ := (h.1 z).1 q
    rw [chn_end (r := ((pl at'.toNat).toInt.toNat, 0)) (hj q)] at k2
    rw [← k2]
    exact ⟨q, fun _ => by show _ = (((pl at'.toNat).toInt.toNat : Nat) : Int); omega⟩
  · exact ⟨((h.1 z).2 q).symm, fun z2 => absurd z2 q⟩
theorem RP.one {T : Nat → Int × Int64 × Nat} {sub : Nat → Nat × Int} {jn : Nat → Bool} {pl : Nat → Int32} {fa0 at0 fa at_ fa1 at1 fa' at' : Int} (h : RP pl fa0 at0 fa at_ sub) (hf : fa = 0) (hjn : jn (pl at_.toNat).toInt.toNat = true) (h1 : RP pl fa at_ fa1 at1 (fun p => (nx T p, 0))) (h2 : RP pl fa1 at1 fa' at' sub) : RP pl fa0 at0 fa' at' (fun p => chn sub (nx T) jn 1 (sub p)) := by
  refine ⟨fun z => ?_, fun z => absurd (hf.symm.trans (h.2 z)) (fun e => z e.symm)⟩
  obtain ⟨a, b⟩ := h.1 z
  have b' := b hf
  have e : sub (pl at0.toNat).toInt.toNat = ((pl at_.toNat).toInt.toNat, 0) := by
    have e2 : (pl at_.toNat).toInt.toNat = (sub (pl at0.toNat).toInt.toNat).1 := by omega
    rw [e2]; exact Prod.ext rfl (a.symm.trans hf)
  obtain ⟨c, d⟩ := h1.1 hf
  have c0 : fa1 = 0 := c
  have e1 : (pl at1.toNat).toInt.toNat = nx T (pl at_.toNat).toInt.toNat := by
    have d2 : (pl at1.toNat).toInt = ((nx T (pl at_.toNat).toInt.toNat : Nat) : Int) := d c0
    omega
  show fa' = (chn sub (nx T) jn 1 (sub (pl at0.toNat).toInt.toNat)).2 ∧ (fa' = 0 → (pl at'.toNat).toInt = (((chn sub (nx T) jn 1 (sub (pl at0.toNat).toInt.toNat)).1 : Nat) : Int))
  have e5 : chn sub (nx T) jn 1 (sub (pl at0.toNat).toInt.toNat) = sub (pl at1.toNat).toInt.toNat := by rw [e, chn_go (k := 0) hjn, ← e1]; rfl
  rw [e5]; exact h2.1 c0
theorem RP.none {T : Nat → Int × Int64 × Nat} {sub : Nat → Nat × Int} {jn : Nat → Bool} {pl : Nat → Int32} {fa0 at0 fa at_ at' : Int} (h : RP pl fa0 at0 fa at_ sub) (ha : at' = at_) (hj : fa = 0 → ¬ jn (pl at_.toNat).toInt.toNat = true) : RP pl fa0 at0 fa at' (fun p => chn sub (nx T) jn 1 (sub p)) := by
  subst ha
  refine h.mv (fun z => ?_)
  obtain ⟨a, b⟩ := h.1 z
  by_cases q : fa = 0
  · have b' := b q
    have e : sub (pl at0.toNat).toInt.toNat = ((pl at'.toNat).toInt.toNat, 0) := by
      have e2 : (pl at'.toNat).toInt.toNat = (sub (pl at0.toNat).toInt.toNat).1 := by omega
      rw [e2]; exact Prod.ext rfl (a.symm.trans q)
    show chn sub (nx T) jn 1 (sub (pl at0.toNat).toInt.toNat) = _
    rw [e]; exact chn_end (r := ((pl at'.toNat).toInt.toNat, 0)) (hj q) 1
  · exact chn_bad (fun z2 => q (a.trans z2)) 1
theorem WN_ne_all : ∀ j, j < 23 → ∀ k, k < 23 → (decide (j = k) || !decide (WN j = WN k)) = true := by decide +kernel
theorem WN_ne (j : Nat) (hj : j < 23) (k : Nat) (hk : k < 23) (hne : ¬ j = k) : ¬ WN j = WN k := fun e => by
  have a := WN_ne_all j hj k hk
  rw [decide_eq_false hne, decide_eq_true e] at a
  exact absurd a (by decide)
theorem wI_uq {T : Nat → Int × Int64 × Nat} {p j k : Nat} (hj : j < 23) (hk : k < 23) (h : wI T p (WN j) = 1) (hne : ¬ j = k) : wI T p (WN k) = 0 := wI_0.mpr (fun q => WN_ne j hj k hk hne ((of_decide_eq_true (wI_1.mp h)).2.symm.trans (of_decide_eq_true q).2))
theorem wI_gI {T : Nat → Int × Int64 × Nat} {p : Nat} {w : Int64} {c : Int32} (h : wI T p w = 1) : ¬ isG T p c = true := fun q => by
  have a := (of_decide_eq_true (wI_1.mp h)).1
  rw [(of_decide_eq_true q).1] at a
  exact absurd a (by decide)
/-- what the reference has told and what is told purely -/
def MN (nm : Nat → Int64) (t : Nat → Int32) (S : ((Nat → Int64) × Nat × (Nat → Int64) × Nat × (Nat → Bool) × (Nat → Bool) × Nat)) : Prop := (t 120).toInt = ((S.2.1 : Nat) : Int) ∧ (t 121).toInt = ((S.2.2.2.1 : Nat) : Int) ∧ (∀ j, j < S.2.1 → nm j = S.1 j) ∧ (∀ j, j < S.2.2.2.1 → nm (12 + j) = S.2.2.1 j)
def MR (nm : Nat → Int64) (t hb : Nat → Int32) (S : ((Nat → Int64) × Nat × (Nat → Int64) × Nat × (Nat → Bool) × (Nat → Bool) × Nat)) : Prop := MN nm t S ∧ (t 122).toInt = ((S.2.2.2.2.2.2 : Nat) : Int) ∧ (∀ j, j < 12 → ((t (130 + 8 * j)).toInt = 1 ↔ S.2.2.2.2.1 j = true)) ∧ (∀ j, j < 12 → ((hb j).toInt = 1 ↔ S.2.2.2.2.2.1 j = true))
/-- the first of the names, wares ahead of shelves -/
def nmOf (S : ((Nat → Int64) × Nat × (Nat → Int64) × Nat × (Nat → Bool) × (Nat → Bool) × Nat)) (v : Int64) : Int := if fnd S.1 S.2.1 v < S.2.1 then ((fnd S.1 S.2.1 v : Nat) : Int) else if fnd S.2.2.1 S.2.2.2.1 v < S.2.2.2.1 then 12 + ((fnd S.2.2.1 S.2.2.2.1 v : Nat) : Int) else -1
theorem nmOf_w {nm : Nat → Int64} {t : Nat → Int32} {S : ((Nat → Int64) × Nat × (Nat → Int64) × Nat × (Nat → Bool) × (Nat → Bool) × Nat)} {v : Int64} {k : Nat} (h : MN nm t S) (hk : k < S.2.1) (h1 : nm k = v) (h2 : ∀ j, j < k → ¬ nm j = v) : nmOf S v = (k : Int) := by
  have e : fnd S.1 S.2.1 v = k := fnd_eq hk ((h.2.2.1 k hk).symm.trans h1) (fun j hj z => h2 j hj ((h.2.2.1 j (by omega)).trans z))
  unfold nmOf; rw [if_pos (by omega), e]
theorem nmOf_s {nm : Nat → Int64} {t : Nat → Int32} {S : ((Nat → Int64) × Nat × (Nat → Int64) × Nat × (Nat → Bool) × (Nat → Bool) × Nat)} {v : Int64} {k : Nat} (h : MN nm t S) (hk : k < S.2.2.2.1) (h1 : nm (12 + k) = v) (h2 : ∀ j, j < S.2.1 → ¬ nm j = v) (h3 : ∀ j, j < k → ¬ nm (12 + j) = v) : nmOf S v = 12 + (k : Int) := by
  have e0 : fnd S.1 S.2.1 v = S.2.1 := fnd_no (fun j hj z => h2 j hj ((h.2.2.1 j hj).trans z))
  have e : fnd S.2.2.1 S.2.2.2.1 v = k := fnd_eq hk ((h.2.2.2 k hk).symm.trans h1) (fun j hj z => h3 j hj ((h.2.2.2 j (by omega)).trans z))
  unfold nmOf; rw [if_neg (by omega), if_pos (by omega), e]
theorem nmOf_n {nm : Nat → Int64} {t : Nat → Int32} {S : ((Nat → Int64) × Nat × (Nat → Int64) × Nat × (Nat → Bool) × (Nat → Bool) × Nat)} {v : Int64} (h : MN nm t S) (h2 : ∀ j, j < S.2.1 → ¬ nm j = v) (h3 : ∀ j, j < S.2.2.2.1 → ¬ nm (12 + j) = v) : nmOf S v = -1 := by
  have e0 : fnd S.1 S.2.1 v = S.2.1 := fnd_no (fun j hj z => h2 j hj ((h.2.2.1 j hj).trans z))
  have e : fnd S.2.2.1 S.2.2.2.1 v = S.2.2.2.1 := fnd_no (fun j hj z => h3 j hj ((h.2.2.2 j hj).trans z))
  unfold nmOf; rw [if_neg (by omega), if_neg (by omega)]
theorem nmOf_new {S : ((Nat → Int64) × Nat × (Nat → Int64) × Nat × (Nat → Bool) × (Nat → Bool) × Nat)} {v : Int64} : (fnd S.1 S.2.1 v < S.2.1 ∨ fnd S.2.2.1 S.2.2.2.1 v < S.2.2.2.1) ↔ 0 ≤ nmOf S v := by
  unfold nmOf
  by_cases q : fnd S.1 S.2.1 v < S.2.1
  · rw [if_pos q]; exact ⟨fun _ => by omega, fun _ => Or.inl q⟩
  · rw [if_neg q]
    by_cases q2 : fnd S.2.2.1 S.2.2.2.1 v < S.2.2.2.1
    · rw [if_pos q2]; exact ⟨fun _ => by omega, fun _ => Or.inr q2⟩
    · rw [if_neg q2]; exact ⟨fun z => by omega, fun z => absurd z (by decide)⟩
theorem nmOf_old {S : ((Nat → Int64) × Nat × (Nat → Int64) × Nat × (Nat → Bool) × (Nat → Bool) × Nat)} {v : Int64} (hS : S.2.1 ≤ 12) : (0 ≤ nmOf S v ∧ nmOf S v < 12 → fnd S.1 S.2.1 v < S.2.1 ∧ nmOf S v = ((fnd S.1 S.2.1 v : Nat) : Int)) ∧ (nmOf S v < 0 ∨ 12 ≤ nmOf S v → ¬ fnd S.1 S.2.1 v < S.2.1) := by
  unfold nmOf
  by_cases q : fnd S.1 S.2.1 v < S.2.1
  · rw [if_pos q]; exact ⟨fun _ => ⟨q, rfl⟩, fun z => by omega⟩
  · rw [if_neg q]
    by_cases q2 : fnd S.2.2.1 S.2.2.2.1 v < S.2.2.2.1
    · rw [if_pos q2]; exact ⟨fun z => by omega, fun _ => q⟩
    · rw [if_neg q2]; exact ⟨fun z => by omega, fun _ => q⟩
theorem MR.ware {T : Nat → Int × Int64 × Nat} {nm nm' : Nat → Int64} {t t' hb : Nat → Int32} {S : ((Nat → Int64) × Nat × (Nat → Int64) × Nat × (Nat → Bool) × (Nat → Bool) × Nat)} {p n : Nat} {v : Int64} (h : MR nm t hb S) (hn : (t 120).toInt = (n : Int)) (h1 : (t' 120).toInt = (t 120).toInt + 1) (h2 : ∀ j, (j = 121 ∨ j = 122 ∨ 130 ≤ j ∧ j % 8 = 2) → t' j = t j) (e : nm' = vp_updL nm n v) (hv : v = (T (nx T p)).2.1) (h12 : n < 12) : MR nm' t' hb (sWare T S p) := by
  obtain ⟨⟨a1, a2, b, c⟩, a3, d, f⟩ := h
  have en : n = S.2.1 := by omega
  subst e
  refine ⟨⟨?_, ?_, ?_, ?_⟩, (by rw [h2 122 (Or.inr (Or.inl rfl))]; exact a3), ?_, f⟩
  · show _ = ((S.2.1 + 1 : Nat) : Int); omega
  · rw [h2 121 (Or.inl rfl)]; exact a2
  · intro j hj
    have hj2 : j < S.2.1 + 1 := hj
    show vp_updL nm n v j = vp_updL S.1 S.2.1 (T (nx T p)).2.1 j
    rw [← en]
    by_cases q : j = n
    · rw [q, pk_uLs, pk_uLs, hv]
    · rw [pk_uLn q, pk_uLn q]; exact b j (by omega)
  · intro j hj
    rw [pk_uLn (show ¬ 12 + j = n by omega)]; exact c j hj
  · intro j hj
    rw [h2 (130 + 8 * j) (Or.inr (Or.inr (by omega)))]; exact d j hj
theorem MR.shelf {T : Nat → Int × Int64 × Nat} {nm nm' : Nat → Int64} {t t' hb : Nat → Int32} {S : ((Nat → Int64) × Nat × (Nat → Int64) × Nat × (Nat → Bool) × (Nat → Bool) × Nat)} {p n : Nat} {v : Int64} (h : MR nm t hb S) (hn : (t 121).toInt = (n : Int)) (h1 : (t' 121).toInt = (t 121).toInt + 1) (h2 : ∀ j, (j = 120 ∨ j = 122 ∨ 130 ≤ j ∧ j < 219 ∧ j % 8 = 2) → t' j = t j) (e : nm' = vp_updL nm (12 + n) v) (hv : v = (T (nx T p)).2.1) (hw : S.2.1 ≤ 12) : MR nm' t' hb (sShelf T S p) := by
  obtain ⟨⟨a1, a2, b, c⟩, a3, d, f⟩ := h
  have en : n = S.2.2.2.1 := by omega
  subst e
  refine ⟨⟨?_, ?_, ?_, ?_⟩, (by rw [h2 122 (Or.inr (Or.inl rfl))]; exact a3), ?_, f⟩
  · rw [h2 120 (Or.inl rfl)]; exact a1
  · show _ = ((S.2.2.2.1 + 1 : Nat) : Int); omega
  · intro j hj
    have hj2 : j < S.2.1 := hj
    rw [pk_uLn (show ¬ j = 12 + n by omega)]; exact b j hj
  · intro j hj
    have hj2 : j < S.2.2.2.1 + 1 := hj
    show vp_updL nm (12 + n) v (12 + j) = vp_updL S.2.2.1 S.2.2.2.1 (T (nx T p)).2.1 j
    rw [← en]
    by_cases q : j = n
    · rw [q, pk_uLs, pk_uLs, hv]
    · rw [pk_uLn (show ¬ 12 + j = 12 + n by omega), pk_uLn q]; exact c j (by omega)
  · intro j hj
    rw [h2 (130 + 8 * j) (Or.inr (Or.inr (by omega)))]; exact d j hj
theorem MR.top {T : Nat → Int × Int64 × Nat} {nm : Nat → Int64} {t t' hb : Nat → Int32} {S : ((Nat → Int64) × Nat × (Nat → Int64) × Nat × (Nat → Bool) × (Nat → Bool) × Nat)} {p k : Nat} (h : MR nm t hb S) (hk : k = fnd S.1 S.2.1 (T (nx T p)).2.1) (h12 : k < 12) (e : t' = upd t (130 + 8 * k) 1) : MR nm t' hb (sTop T S p) := by
  obtain ⟨⟨a1, a2, b, c⟩, a3, d, f⟩ := h
  subst e
  refine ⟨⟨?_, ?_, b, c⟩, (by rw [pk_un (show ¬ 122 = 130 + 8 * k by omega)]; exact a3), ?_, f⟩
  · rw [pk_un (show ¬ 120 = 130 + 8 * k by omega)]; exact a1
  · rw [pk_un (show ¬ 121 = 130 + 8 * k by omega)]; exact a2
  · intro j hj
    show _ ↔ updB S.2.2.2.2.1 (fnd S.1 S.2.1 (T (nx T p)).2.1) j = true
    rw [← hk]; unfold updB
    by_cases q : j = k
    · rw [q, pk_us, if_pos rfl]; exact ⟨fun _ => rfl, fun _ => rfl⟩
    · rw [pk_un (show ¬ 130 + 8 * j = 130 + 8 * k by omega), if_neg q]; exact d j hj
theorem MR.hab {T : Nat → Int × Int64 × Nat} {nm : Nat → Int64} {t t' hb hb' : Nat → Int32} {S : ((Nat → Int64) × Nat × (Nat → Int64) × Nat × (Nat → Bool) × (Nat → Bool) × Nat)} {p k : Nat} (h : MR nm t hb S) (hk : k = fnd S.1 S.2.1 (T (nx T p)).2.1) (h12 : k < 12) (e : hb' = upd hb k (vp_nar .boolean 1)) (h2 : ∀ j, (j = 120 ∨ j = 121 ∨ j = 122 ∨ 130 ≤ j ∧ j % 8 = 2) → t' j = t j) : MR nm t' hb' (sHab T S p) := by
  obtain ⟨⟨a1, a2, b, c⟩, a3, d, f⟩ := h
  subst e
  refine ⟨⟨?_, ?_, b, c⟩, (by rw [h2 122 (Or.inr (Or.inr (Or.inl rfl)))]; exact a3), ?_, ?_⟩
  · rw [h2 120 (Or.inl rfl)]; exact a1
  · rw [h2 121 (Or.inr (Or.inl rfl))]; exact a2
  · intro j hj
    rw [h2 (130 + 8 * j) (Or.inr (Or.inr (Or.inr (by omega))))]; exact d j hj
  · intro j hj
    show _ ↔ updB S.2.2.2.2.2.1 (fnd S.1 S.2.1 (T (nx T p)).2.1) j = true
    rw [← hk]; unfold updB
    by_cases q : j = k
    · rw [q, pk_us, if_pos rfl]; exact ⟨fun _ => rfl, fun _ => rfl⟩
    · rw [pk_un q, if_neg q]; exact f j hj
theorem MR.nest {nm : Nat → Int64} {t t' hb : Nat → Int32} {S : ((Nat → Int64) × Nat × (Nat → Int64) × Nat × (Nat → Bool) × (Nat → Bool) × Nat)} (h : MR nm t hb S) (h1 : (t' 122).toInt = (t 122).toInt + 1) (h2 : ∀ j, (j = 120 ∨ j = 121 ∨ 130 ≤ j ∧ j < 219 ∧ j % 8 = 2) → t' j = t j) : MR nm t' hb (sNest S) := by
  obtain ⟨⟨a1, a2, b, c⟩, a3, d, f⟩ := h
  refine ⟨⟨?_, ?_, b, c⟩, ?_, ?_, f⟩
  · rw [h2 120 (Or.inl rfl)]; exact a1
  · rw [h2 121 (Or.inr (Or.inl rfl))]; exact a2
  · show _ = ((S.2.2.2.2.2.2 + 1 : Nat) : Int); omega
  · intro j hj
    rw [h2 (130 + 8 * j) (Or.inr (Or.inr (by omega)))]; exact d j hj
theorem lc_int {x y : Int64} {v : Int32} (h : lc x y = v) : v.toInt < 0 ∧ x.toInt < y.toInt ∨ v.toInt = 0 ∧ x.toInt = y.toInt ∨ 0 < v.toInt ∧ y.toInt < x.toInt := by
  obtain ⟨a, b, c1, c2⟩ := lc_eq h
  have l0 : (0 : Int32).toInt = 0 := rfl
  have a' : v.toInt = 0 ↔ x.toInt = y.toInt := by
    constructor
    · intro z; rw [a.mp ((i_eq _ _).mpr z)]
    · intro z; rw [a.mpr (Int64.toInt_inj.mp z)]; rfl
  have b' : v.toInt < 0 ↔ x.toInt < y.toInt := by
    constructor
    · intro z; exact Int64.lt_iff_toInt_lt.mp (b.mp ((i_lt _ _).mpr (by omega)))
    · intro z; have := (i_lt _ _).mp (b.mpr (Int64.lt_iff_toInt_lt.mpr z)); omega
  omega
/-- the search for a word that isn't a name -/
def NQ (fa so : Int) (v : Int64) (r k : Int) : Prop := (r = 1 → (fa = 0 ∧ so = 1) ∧ ∀ j : Nat, (j : Int) < k → ¬ v = WN j) ∧ (r = 0 → ¬ ((fa = 0 ∧ so = 1) ∧ ∀ j : Nat, (j : Int) < k → ¬ v = WN j))
def nE (fa : Int) (T : Nat → Int × Int64 × Nat) (p : Nat) : Int := if fa = 0 then nmI T p else 0
theorem nE_z {fa : Int} {T : Nat → Int × Int64 × Nat} {p : Nat} (h : fa = 0) : nE fa T p = nmI T p := if_pos h
theorem nE_1 {fa : Int} {T : Nat → Int × Int64 × Nat} {p : Nat} (h : nE fa T p = 1) : fa = 0 ∧ isNm T p = true := by
  by_cases q : fa = 0
  · rw [nE_z q] at h; exact ⟨q, nmI_1.mp h⟩
  · unfold nE at h; rw [if_neg q] at h; exact absurd h (by decide)
theorem nE_0 {fa : Int} {T : Nat → Int × Int64 × Nat} {p : Nat} (h : nE fa T p = 0) (hf : fa = 0) : ¬ isNm T p = true := by rw [nE_z hf] at h; exact nmI_0.mp h
theorem NQ.fin {so pl : Nat → Int32} {va : Nat → Int64} {T : Nat → Int × Int64 × Nat} {fa at_ : Int32} {r : Int} (hR : RWS so pl va T) (h0 : 0 ≤ at_.toInt) (h1 : at_.toInt ≤ ((eN so : Nat) : Int)) (h : NQ fa.toInt (so at_.toInt.toNat).toInt (va at_.toInt.toNat) r 17) (hr : r = 0 ∨ r = 1) : r = nE fa.toInt T (pl at_.toInt.toNat).toInt.toNat := by
  obtain ⟨a, b, _⟩ := hR at_.toInt.toNat (by omega)
  rcases hr with q | q
  · rw [q]
    by_cases z : fa.toInt = 0
    · rw [nE_z z]
      refine (nmI_0.mpr (fun y => ?_)).symm
      have y2 := isNm_iff.mp y
      have s1 := a.trans y2.1
      refine h.2 q ⟨⟨z, s1⟩, fun j hj => ?_⟩
      rw [b (Or.inl s1)]; exact y2.2 j (by omega)
    · unfold nE; rw [if_neg z]
  · rw [q]
    obtain ⟨⟨z, s1⟩, y⟩ := h.1 q
    rw [nE_z z]
    refine (nmI_1.mpr (isNm_iff.mpr ⟨a.symm.trans s1, fun j hj => ?_⟩)).symm
    rw [← b (Or.inl s1)]; exact y j (by omega)


theorem eN_eq {f : Nat → Int32} {n : Nat} (hn : n ≤ 1000) (h0 : f n = 0) (h : ∀ a, a < n → ¬ (f a).toInt = 0) : eN f = n := by
  have a : eN f ≤ n := eF_le h0 1001 0 (by omega) (by omega)
  rcases Nat.lt_or_ge (eN f) n with q | q
  · have b : f (eN f) = 0 := eF_at 1001 0 (by show eN f < 0 + 1001; omega)
    exact absurd (by rw [b]; rfl) (h _ q)
  · omega
theorem tP_bl {f : Nat → Int32} {N k : Nat} (hk : k < N) (hb : isB (f k) = true) : tP f N k = tP f N (k + 1) := by
  have h := rn_RE isB f N (k + 1)
  have h1 := h.1
  refine (RE.rn (P := isB) (f := f) (n := N) (i := k) (e := rn isB f N (k + 1)) ⟨by omega, fun j j1 j2 => ?_, h.2.2⟩).symm
  rcases Nat.lt_or_ge k j with q | q
  · exact h.2.1 j (by omega) j2
  · have e : j = k := by omega
    rw [e]; exact ⟨hk, hb⟩
theorem tP_nb {f : Nat → Int32} {N k : Nat} (h : ¬ (k < N ∧ isB (f k) = true)) : tP f N k = k := (RE.rn (P := isB) (f := f) (n := N) (i := k) (e := k) ⟨Nat.le_refl _, fun j h1 h2 => absurd h2 (by omega), h⟩).symm
theorem tok_w {f : Nat → Int32} {N k e : Nat} (hk : k < N) (hP : tP f N k = k) (hR : RE (isR 97 122) f N k e) (he : k < e) : tE f N k = e ∧ tK f N k = if e ≤ k + 8 then 1 else 4 := by
  have eW : tW f N k = e := by unfold tW; rw [hP]; exact hR.rn.symm
  constructor
  · unfold tE; rw [hP, if_neg (by omega), eW, if_pos he]
  · unfold tK; rw [hP, if_neg (by omega), eW, if_pos he]
theorem tok_d {f : Nat → Int32} {N k e : Nat} (hk : k < N) (hP : tP f N k = k) (hl : ¬ isR 97 122 (f k) = true) (hR : RE (isR 48 57) f N k e) (he : k < e) : tE f N k = e ∧ tK f N k = if e ≤ k + 4 then 2 else 4 := by
  have eW : tW f N k = k := by unfold tW; rw [hP]; exact (RE.rn (P := isR 97 122) (f := f) (n := N) (i := k) (e := k) ⟨Nat.le_refl _, fun j h1 h2 => absurd h2 (by omega), fun z => hl z.2⟩).symm
  have eD : tD f N k = e := by unfold tD; rw [hP]; exact hR.rn.symm
  constructor
  · unfold tE; rw [hP, if_neg (by omega), eW, if_neg (by omega), eD, if_pos he]
  · unfold tK; rw [hP, if_neg (by omega), eW, if_neg (by omega), eD, if_pos he]
theorem tok_s {f : Nat → Int32} {N k : Nat} (hk : k < N) (hP : tP f N k = k) (hl : ¬ isR 97 122 (f k) = true) (hd : ¬ isR 48 57 (f k) = true) : tE f N k = k + 1 ∧ tK f N k = if isS (f k) = true then 3 else 4 := by
  have eW : tW f N k = k := by unfold tW; rw [hP]; exact (RE.rn (P := isR 97 122) (f := f) (n := N) (i := k) (e := k) ⟨Nat.le_refl _, fun j h1 h2 => absurd h2 (by omega), fun z => hl z.2⟩).symm
  have eD : tD f N k = k := by unfold tD; rw [hP]; exact (RE.rn (P := isR 48 57) (f := f) (n := N) (i := k) (e := k) ⟨Nat.le_refl _, fun j h1 h2 => absurd h2 (by omega), fun z => hd z.2⟩).symm
  constructor
  · unfold tE; rw [hP, if_neg (by omega), eW, if_neg (by omega), eD, if_neg (by omega)]
  · unfold tK; rw [hP, if_neg (by omega), eW, if_neg (by omega), eD, if_neg (by omega)]
/-- the cutting under way: n tokens stand, the text is looked at from k on -/
def CA (so pl : Nat → Int32) (va : Nat → Int64) (f : Nat → Int32) (N : Nat) (n k : Int) : Prop :=
  (∀ a : Nat, (a : Int) < n → ¬ (so a).toInt = 0 ∧ (so a).toInt = tK f N (pl a).toInt.toNat ∧ ((so a).toInt = 1 ∨ (so a).toInt = 2 ∨ (so a).toInt = 3 → va a = tV0 f N (pl a).toInt.toNat) ∧ ((a : Int) + 1 < n → (pl (a + 1)).toInt = ((tP f N (tE f N (pl a).toInt.toNat) : Nat) : Int))) ∧ (n = 0 → tP f N k.toNat = tP f N 0) ∧ (0 < n → (pl 0).toInt = ((tP f N 0 : Nat) : Int) ∧ tP f N k.toNat = tP f N (tE f N (pl (n.toNat - 1)).toInt.toNat)) ∧ k ≤ (N : Int)
theorem CA.zero {so pl : Nat → Int32} {va : Nat → Int64} {f : Nat → Int32} {N : Nat} {n k : Int} (hn : n = 0) (hk : k = 0) : CA so pl va f N n k := by
  subst hn; subst hk
  exact ⟨fun a ha => absurd ha (by omega), fun _ => rfl, fun h => absurd h (by omega), by omega⟩
theorem CA.blank {so pl : Nat → Int32} {va : Nat → Int64} {f : Nat → Int32} {N : Nat} {n k k' : Int} (h : CA so pl va f N n k) (h0 : 0 ≤ k) (h1 : k < (N : Int)) (hb : isB (f k.toNat) = true) (hk : k' = k + 1) : CA so pl va f N n k' := by
  subst hk
  have e : tP f N (k + 1).toNat = tP f N k.toNat := by
    rw [show (k + 1).toNat = k.toNat + 1 by omega]; exact (tP_bl (by omega) hb).symm
  exact ⟨h.1, fun z => by rw [e]; exact h.2.1 z, fun z => by rw [e]; exact h.2.2.1 z, by omega⟩
theorem CA.tok {so pl so' pl' : Nat → Int32} {va va' : Nat → Int64} {f : Nat → Int32} {N : Nat} {n k n' k' : Int} {s q : Int32} {v : Int64} (h : CA so pl va f N n k) (h0 : 0 ≤ k) (h1 : k < (N : Int)) (hn : 0 ≤ n) (hP : tP f N k.toNat = k.toNat) (e1 : so' = upd so n.toNat s) (e2 : pl' = upd pl n.toNat q) (hq : q.toInt = k) (e3 : va' = vp_updL va n.toNat v) (hs : s.toInt = tK f N k.toNat) (hE : k' = ((tE f N k.toNat : Nat) : Int)) (hv : s.toInt = 1 ∨ s.toInt = 2 ∨ s.toInt = 3 → v = tV0 f N k.toNat) (hn' : n' = n + 1) : CA so' pl' va' f N n' k' := by
  subst e1; subst e2; subst e3; subst hn'
  have hK : ¬ tK f N k.toNat = 0 := fun z => by
    unfold tK at z
    rw [hP, if_neg (by omega)] at z
    revert z
    repeat' split
    all_goals (intro z; exact absurd z (by decide))
  have hE2 : tE f N k.toNat ≤ N := tE_le (by rw [hP]; omega)
  refine ⟨fun a ha => ?_, fun z => absurd z (by omega), fun _ => ⟨?_, ?_⟩, by omega⟩
  · by_cases qa : a = n.toNat
    · rw [qa, pk_us, pk_us, pk_uLs, hq]
      exact ⟨by rw [hs]; exact hK, hs, hv, fun z => absurd z (by omega)⟩
    · rw [pk_un qa, pk_un qa, pk_uLn qa]
      have ha2 := h.1 a (by omega)
      refine ⟨ha2.1, ha2.2.1, ha2.2.2.1, fun z => ?_⟩
      by_cases qb : a + 1 = n.toNat
      · rw [qb, pk_us, hq]
        have c := (h.2.2.1 (by omega)).2
        rw [show n.toNat - 1 = a by omega, hP] at c
        rw [← c]; omega
      · rw [pk_un qb]; exact ha2.2.2.2 (by omega)
  · by_cases qa : (0 : Nat) = n.toNat
    · rw [qa, pk_us, hq]
      have c := h.2.1 (by omega)
      rw [hP] at c
      rw [← qa, ← c]; omega
    · rw [pk_un qa]; exact (h.2.2.1 (by omega)).1
  · rw [show (n + 1).toNat - 1 = n.toNat by omega, pk_us, hq, hE, Int.toNat_natCast]
theorem CA.word {so pl so' pl' : Nat → Int32} {va va' : Nat → Int64} {f : Nat → Int32} {N : Nat} {n k n' k' : Int} {s q : Int32} {v : Int64} (h : CA so pl va f N n k) (h0 : 0 ≤ k) (h1 : k < (N : Int)) (hn : 0 ≤ n) (hb : ¬ isB (f k.toNat) = true) (e1 : so' = upd so n.toNat s) (e2 : pl' = upd pl n.toNat q) (hq : q.toInt = k) (e3 : va' = vp_updL va n.toNat v) (hR : RE (isR 97 122) f N k.toNat k'.toNat) (he : k < k') (hs : k' ≤ k + 8 ∧ s.toInt = 1 ∨ k + 8 < k' ∧ s.toInt = 4) (hv : v = e37 f k.toNat (min (k' - k) 8).toNat) (hn' : n' = n + 1) : CA so' pl' va' f N n' k' := by
  have hP : tP f N k.toNat = k.toNat := tP_nb (fun z => hb z.2)
  obtain ⟨a, b⟩ := tok_w (by omega) hP hR (by omega)
  refine h.tok h0 h1 hn hP e1 e2 hq e3 ?_ (by rw [a]; omega) (fun z => ?_) hn'
  · rw [b]; rcases hs with z | z
    · rw [if_pos (by omega)]; exact z.2
    · rw [if_neg (by omega)]; exact z.2
  · rcases hs with y | y
    · have k1 : tK f N k.toNat = 1 := by rw [b, if_pos (by omega)]
      unfold tV0 tV
      rw [k1, if_pos (Or.inl rfl), if_pos rfl, hP, a, hv, show (min (k' - k) 8).toNat = k'.toNat - k.toNat by omega]
    · omega
theorem CA.dig {so pl so' pl' : Nat → Int32} {va va' : Nat → Int64} {f : Nat → Int32} {N : Nat} {n k n' k' : Int} {s q : Int32} {v : Int64} (h : CA so pl va f N n k) (h0 : 0 ≤ k) (h1 : k < (N : Int)) (hn : 0 ≤ n) (hb : ¬ isB (f k.toNat) = true) (hl : ¬ isR 97 122 (f k.toNat) = true) (e1 : so' = upd so n.toNat s) (e2 : pl' = upd pl n.toNat q) (hq : q.toInt = k) (e3 : va' = vp_updL va n.toNat v) (hR : RE (isR 48 57) f N k.toNat k'.toNat) (he : k < k') (hs : k' ≤ k + 4 ∧ s.toInt = 2 ∨ k + 4 < k' ∧ s.toInt = 4) (hv : v = e10 f k.toNat (min (k' - k) 4).toNat) (hn' : n' = n + 1) : CA so' pl' va' f N n' k' := by
  have hP : tP f N k.toNat = k.toNat := tP_nb (fun z => hb z.2)
  obtain ⟨a, b⟩ := tok_d (by omega) hP hl hR (by omega)
  refine h.tok h0 h1 hn hP e1 e2 hq e3 ?_ (by rw [a]; omega) (fun z => ?_) hn'
  · rw [b]; rcases hs with z | z
    · rw [if_pos (by omega)]; exact z.2
    · rw [if_neg (by omega)]; exact z.2
  · rcases hs with y | y
    · have k1 : tK f N k.toNat = 2 := by rw [b, if_pos (by omega)]
      unfold tV0 tV
      rw [k1, if_pos (Or.inr (Or.inl rfl)), if_neg (by decide), if_pos rfl, hP, a, hv, show (min (k' - k) 4).toNat = k'.toNat - k.toNat by omega]
    · omega
theorem CA.sgn {so pl so' pl' : Nat → Int32} {va va' : Nat → Int64} {f : Nat → Int32} {N : Nat} {n k n' k' : Int} {s q c : Int32} {v : Int64} (h : CA so pl va f N n k) (h0 : 0 ≤ k) (h1 : k < (N : Int)) (hn : 0 ≤ n) (hb : ¬ isB (f k.toNat) = true) (hl : ¬ isR 97 122 (f k.toNat) = true) (hd : ¬ isR 48 57 (f k.toNat) = true) (e1 : so' = upd so n.toNat s) (e2 : pl' = upd pl n.toNat q) (hq : q.toInt = k) (e3 : va' = vp_updL va n.toNat v) (hk : k' = k + 1) (hc : f k.toNat = c) (hs : isS c = true ∧ s.toInt = 3 ∨ isS c = false ∧ s.toInt = 4) (hv : v = c.toInt64) (hn' : n' = n + 1) : CA so' pl' va' f N n' k' := by
  have hP : tP f N k.toNat = k.toNat := tP_nb (fun z => hb z.2)
  obtain ⟨a, b⟩ := tok_s (by omega) hP hl hd
  rw [hc] at b
  refine h.tok h0 h1 hn hP e1 e2 hq e3 ?_ (by rw [a]; omega) (fun z => ?_) hn'
  · rw [b]; rcases hs with z | z
    · rw [if_pos z.1]; exact z.2
    · rw [z.1]; exact z.2
  · rcases hs with y | y
    · have k1 : tK f N k.toNat = 3 := by rw [b, if_pos y.1]
      unfold tV0 tV
      rw [k1, if_pos (Or.inr (Or.inr rfl)), if_neg (by decide), if_neg (by decide), hP, hc, hv]
    · omega
theorem CA.fin {so pl so' pl' : Nat → Int32} {va : Nat → Int64} {f : Nat → Int32} {N : Nat} {n k : Int} {q : Int32} (h : CA so pl va f N n k) (hk : (N : Int) ≤ k) (hn : 0 ≤ n) (hN : n ≤ 1000) (e1 : so' = upd so n.toNat 0) (e2 : pl' = upd pl n.toNat q) (hq : q.toInt = (N : Int)) : RWS so' pl' va (TKS f N) ∧ (pl' 0).toInt = ((tP f N 0 : Nat) : Int) := by
  subst e1; subst e2
  have hk2 := h.2.2.2
  have ek : k.toNat = N := by omega
  have eP : tP f N N = N := tP_nb (fun z => absurd z.1 (by omega))
  have eE : eN (upd so n.toNat 0) = n.toNat := eN_eq (by omega) pk_us (fun a ha => by rw [pk_un (show ¬ a = n.toNat by omega)]; exact (h.1 a (by omega)).1)
  obtain ⟨c1, c2, c3, _⟩ := h
  rw [ek, eP] at c2 c3
  refine ⟨fun a ha => ?_, ?_⟩
  · rw [eE] at ha ⊢
    by_cases qa : a = n.toNat
    · rw [qa, pk_us, pk_us, hq]
      refine ⟨?_, fun z => ?_, fun z => absurd z (by omega)⟩
      · show (0 : Int32).toInt = tK f N (N : Int).toNat
        rw [Int.toNat_natCast]; unfold tK; rw [eP, if_pos (Nat.le_refl _)]; rfl
      · have z0 : (0 : Int32).toInt = 0 := rfl
        omega
    · rw [pk_un qa, pk_un qa]
      have ha2 := c1 a (by omega)
      refine ⟨ha2.2.1, ha2.2.2.1, fun z => ?_⟩
      by_cases qb : a + 1 = n.toNat
      · rw [qb, pk_us, hq]
        have c := (c3 (by omega)).2
        rw [show n.toNat - 1 = a by omega] at c
        show (N : Int) = ((tP f N (tE f N (pl a).toInt.toNat) : Nat) : Int)
        rw [← c]
      · rw [pk_un qb]; exact ha2.2.2.2 (by omega)
  · by_cases qa : (0 : Nat) = n.toNat
    · rw [qa, pk_us, hq]
      have c := c2 (by omega)
      rw [← qa, ← c]
    · rw [pk_un qa]; exact (c3 (by omega)).1

