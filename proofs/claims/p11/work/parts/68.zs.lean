
/-- what is told of the shelves is the same -/
def TSH (s : Int) (ht rc rm t : Nat → Int32) : Prop := s = (t 1).toInt ∧ ∀ j : Nat, (j : Int) < s → (ht j).toInt = (t (99 + 3 * j)).toInt ∧ (rc j).toInt = (t (99 + 3 * j + 1)).toInt ∧ (rm j).toInt = (t (99 + 3 * j + 2)).toInt
theorem TD.wt {w : Int} {wd dp wt br bk hb : Nat → Int32} {lids tops : Int32} {t : Nat → Int32} (h : TD w wd dp wt br bk hb lids tops t) {j : Nat} (hj : (j : Int) < w) : wt j = wtM t j := (i_eq _ _).mpr (h.2 j hj).2.2.1
theorem TD.br {w : Int} {wd dp wt br bk hb : Nat → Int32} {lids tops : Int32} {t : Nat → Int32} (h : TD w wd dp wt br bk hb lids tops t) {j : Nat} (hj : (j : Int) < w) : br j = brM t j := (i_eq _ _).mpr (h.2 j hj).2.2.2.1
theorem TD.dp {w : Int} {wd dp wt br bk hb : Nat → Int32} {lids tops : Int32} {t : Nat → Int32} (h : TD w wd dp wt br bk hb lids tops t) {j : Nat} (hj : (j : Int) < w) : dp j = dpM t j := (i_eq _ _).mpr (h.2 j hj).2.1
theorem TD.rs {w : Int} {wd dp wt br bk hb : Nat → Int32} {lids tops : Int32} {t : Nat → Int32} (h : TD w wd dp wt br bk hb lids tops t) {u l : Nat} (hu : (u : Int) < w) (hl : (l : Int) < w) : rsC wd dp lids u l = rsM t u l := by
  have a := (h.2 u hu).1
  have b := (h.2 l hl).1
  have c := (h.2 l hl).2.2.2.2.2.2.1
  have d := h.dp hl
  unfold rsC rsM
  rw [a, b]
  by_cases q : (t (3 + 8 * u)).toInt < (t (3 + 8 * l)).toInt
  · by_cases z : BT lids l = true
    · rw [if_pos z] at c
      rw [if_neg (fun y => by rw [z] at y; exact absurd y.2 (by decide)), if_neg (fun y => by have := y.2; omega)]; exact d
    · rw [if_neg z] at c
      rw [if_pos ⟨q, Bool.eq_false_iff.mpr z⟩, if_pos ⟨q, by omega⟩]
  · rw [if_neg (fun y => q y.1), if_neg (fun y => q y.1)]; exact d
/-- the class's reason is the reference's -/
theorem RFZ.CM {w : Int} {wd dp wt br bk hb my : Nat → Int32} {lids tops : Int32} {t : Nat → Int32} {E : (Nat → (Nat → Int32) → Int32)} (hT : TD w wd dp wt br bk hb lids tops t) (hM : ∀ u l : Nat, (u : Int) < w → (l : Int) < w → ¬ u = l → BT (my l) u = mayM t E u l) {r : Nat → Int32} {n : Nat} (hr : ∀ p, p < n → 0 ≤ (r p).toInt ∧ (r p).toInt < w) (hd : ∀ p, p + 1 < n → ¬ r (p + 1) = r p) {h h' : Int32} (hh : h = h') {x : Int} (a : RFZ (fun u l => BT (my l) u) wt br dp (rsC wd dp lids) r n h x) : RFZ (fun u l => mayM t E u l) (wtM t) (brM t) (dpM t) (rsM t) r n h' x := by
  refine a.cong hh (fun p hp => ?_) (fun p hp => ?_) (fun p hp => ?_) (fun p hp => ?_) (fun p hp => ?_)
  · have a1 := hr p (by omega)
    have a2 := hr (p + 1) hp
    have a3 := hd p hp
    exact hM _ _ (by omega) (by omega) (fun e => a3 ((i_eq _ _).mpr (by omega)))
  · have a1 := hr p hp; exact hT.wt (by omega)
  · have a1 := hr p hp; exact hT.br (by omega)
  · have a1 := hr p hp; exact hT.dp (by omega)
  · have a1 := hr p (by omega)
    have a2 := hr (p + 1) hp
    exact hT.rs (by omega) (by omega)
theorem ROW.nw {sh st lv f : Nat → Int32} {b : Nat} {nw ns : Int} (h : ST sh st lv f b nw ns) {s k : Int32} {r : Nat → Int32} {n : Nat} (hs : 0 ≤ s.toInt) (hR : ROW sh st lv s k r n) {p : Nat} (hp : p < n) : 0 ≤ (r p).toInt ∧ (r p).toInt < nw := by
  obtain ⟨w, h1, h2, h3, h4, h5⟩ := hR.2 p hp
  have := h.2.2.1 w h1 (by rw [h3]; exact hs)
  omega
theorem ROW.n11 {sh st lv : Nat → Int32} {s k : Int32} {r : Nat → Int32} {n w : Nat} (hR : ROW sh st lv s k r n) (hw : w < 12) (hs : 0 ≤ s.toInt) (ho : (sh w).toInt = -1) : n ≤ 11 ∧ ∀ p, p < n → ¬ (r p).toInt = (w : Int) := by
  refine ⟨?_, fun p hp e => ?_⟩
  · have a := hR.size
    have b := cnB_lt (P := std sh st s k) (w := w) (fun z => by have y := (std_iff.mp z).1; rw [y] at ho; omega) 12 hw
    omega
  · obtain ⟨v, h1, h2, h3, h4, h5⟩ := hR.2 p hp
    have : v = w := by omega
    rw [this] at h3; rw [h3] at ho; omega
theorem nI_of9 {x : Int} (h0 : 0 ≤ x) (h1 : x < 2147483648) : (nI x.toNat).toInt = x := by rw [nI_toInt (by omega)]; omega
theorem put_eq {nw ns : Int} {wd dp wt br bk hb my ht rc rm : Nat → Int32} {lids tops nn : Int32} {t o a sh st lv f : Nat → Int32} {p0 p1 p2 : Int32} {x y : Int} (hT : TD nw wd dp wt br bk hb lids tops t) (hS : TSH ns ht rc rm t) (hM : MYR nw nn.toInt wd dp wt lids tops my t o a) (h : ST sh st lv f 0 nw ns) (hv : SV f) (hC : CRs f t 0) (h12 : nw ≤ 12)
    (A : PUTR (OKP p0.toInt p1.toInt p2.toInt nw ns (stF sh st p1 12).toInt) ((sh p0.toInt.toNat).toInt = -1) (p2.toInt = -1 ∧ (rm p1.toInt.toNat).toInt ≤ (stF sh st p1 12).toInt) (fun x => ∀ k : Int32, k.toInt = plc p2.toInt (stF sh st p1 12).toInt → ∀ (r : Nat → Int32) (n : Nat), ROW sh st lv p1 k r n → n ≤ 11 → RFZ (fun u l => BT (my l) u) wt br dp (rsC wd dp lids) (upd r n p0) (n + 1) (ht p1.toInt.toNat) x) x)
    (B : PUTR (OKP p0.toInt p1.toInt p2.toInt (t 0).toInt (t 1).toInt (f (0 + 105 * p1.toInt.toNat)).toInt) (NI f 0 p0 (t 1).toInt) (p2.toInt = -1 ∧ (f (0 + 105 * p1.toInt.toNat)).toInt = (t (101 + 3 * p1.toInt.toNat)).toInt) (fun x => ∀ E : (Nat → (Nat → Int32) → Int32), ME6 t o a E → ∀ n : Nat, (n : Int) = nPt p2.toInt (f (0 + 105 * p1.toInt.toNat + 1 + 13 * p2.toInt.toNat)).toInt → RFZ (fun u l => mayM t E u l) (wtM t) (brM t) (dpM t) (rsM t) (upd (fun p => f (0 + 105 * p1.toInt.toNat + 1 + 13 * p2.toInt.toNat + 1 + p)) n p0) (n + 1) (t (99 + 3 * p1.toInt.toNat)) x) y) : x = y := by
  have e0 := hT.1
  have e1 := hS.1
  have sk : 0 ≤ p1.toInt → p1.toInt < ns → (stF sh st p1 12).toInt = (f (0 + 105 * p1.toInt.toNat)).toInt := fun q1 q2 => by
    have z := h.stacks hv (by decide) q1 q2
    rw [show 460 * 0 + 105 * p1.toInt.toNat = 0 + 105 * p1.toInt.toNat by omega] at z; exact z
  have n4 := h.2.2.2.2.2.2
  refine PUTR.eq A B ⟨fun z => ?_, fun z => ?_⟩ (fun z => ⟨fun q => ?_, fun q => ?_⟩) (fun z q => ⟨fun y => ?_, fun y => ?_⟩) (fun z q nf a9 b9 => ?_)
  · obtain ⟨z1, z2, z3, z4⟩ := z
    have := sk z2.1 z2.2
    exact ⟨by omega, by omega, by omega, by omega⟩
  · obtain ⟨z1, z2, z3, z4⟩ := z
    have := sk z2.1 (by omega)
    exact ⟨by omega, by omega, by omega, by omega⟩
  · rw [← e1]; exact h.ni ⟨by have := z.1; omega, by have := z.1; omega⟩ q
  · rw [← e1] at q; exact h.out ⟨by have := z.1; omega, by have := z.1; omega⟩ q hv (by decide)
  · have z2 := z.2.1
    have := sk z2.1 z2.2
    have r9 := (hS.2 p1.toInt.toNat (by omega)).2.2
    have c9 := hC p1.toInt.toNat (by omega)
    rw [show 460 * 0 + 105 * p1.toInt.toNat = 0 + 105 * p1.toInt.toNat by omega] at c9
    rw [show 99 + 3 * p1.toInt.toNat + 2 = 101 + 3 * p1.toInt.toNat by omega] at r9
    exact ⟨y.1, by have := y.2; omega⟩
  · have z2 := z.2.1
    have := sk z2.1 z2.2
    have r9 := (hS.2 p1.toInt.toNat (by omega)).2.2
    rw [show 99 + 3 * p1.toInt.toNat + 2 = 101 + 3 * p1.toInt.toNat by omega] at r9
    exact ⟨y.1, by have := y.2; omega⟩
  · obtain ⟨E, m1, m2, m3⟩ := hM
    obtain ⟨z1, z2, z3, z4⟩ := z
    have k1 := sk z2.1 z2.2
    have c8 := hv.c8 (b := 0) (s := p1.toInt.toNat) (by decide) (by omega)
    rw [show 460 * 0 + 105 * p1.toInt.toNat = 0 + 105 * p1.toInt.toNat by omega] at c8
    have hM' : ∀ u l : Nat, (u : Int) < nw → (l : Int) < nw → ¬ u = l → BT (my l) u = mayM t E u l := fun u l hu hl hul => MYR.may hT h12 m1 m2 m3 hu hl hul
    have hh : ht p1.toInt.toNat = t (99 + 3 * p1.toInt.toNat) := (i_eq _ _).mpr (hS.2 p1.toInt.toNat (by omega)).1
    have p012 : p0.toInt.toNat < 12 := by omega
    by_cases c : p2.toInt = -1
    · have ek : (nI (stF sh st p1 12).toInt.toNat).toInt = plc p2.toInt (stF sh st p1 12).toInt := by
        rw [nI_of9 (by omega) (by omega)]; exact (if_pos c).symm
      have hR := h.row0 (s := p1) (k := nI (stF sh st p1 12).toInt.toNat) z2.1 (by rw [show 460 * 0 + 105 * p1.toInt.toNat = 0 + 105 * p1.toInt.toNat by omega, nI_of9 (by omega) (by omega)]; omega) (fun p => f (0 + 105 * p1.toInt.toNat + 1 + 13 * p2.toInt.toNat + 1 + p))
      have a8 := RFZ.CM hT hM' (fun p hp => by rw [show p = 0 by omega, pk_us]; omega) (fun p hp => absurd hp (by omega)) hh (a9 _ ek _ 0 hR (by omega))
      exact a8.uniq (b9 E m2 0 (if_pos c).symm)
    · have ek : p2.toInt = plc p2.toInt (stF sh st p1 12).toInt := (if_neg c).symm
      have hR := h.row hv (by decide) (s := p1) (k := p2) z2.1 z2.2 (by omega) (by rw [show 460 * 0 + 105 * p1.toInt.toNat = 0 + 105 * p1.toInt.toNat by omega]; omega)
      rw [show 460 * 0 + 105 * p1.toInt.toNat = 0 + 105 * p1.toInt.toNat by omega] at hR
      obtain ⟨n11, nn⟩ := hR.n11 p012 z2.1 q
      have nw' := fun p hp => ROW.nw h z2.1 hR (p := p) hp
      have zz := hv.z12 (b := 0) (s := p1.toInt.toNat) (k := p2.toInt.toNat) (by decide) (by omega) (by omega)
      rw [show 460 * 0 + 105 * p1.toInt.toNat = 0 + 105 * p1.toInt.toNat by omega] at zz
      have a8 := RFZ.CM hT hM' (fun p hp => by
        by_cases e : p = (f (0 + 105 * p1.toInt.toNat + 1 + 13 * p2.toInt.toNat)).toInt.toNat
        · rw [e, pk_us]; omega
        · rw [pk_un e]; exact nw' p (by omega)) (fun p hp => by
        by_cases e : p + 1 = (f (0 + 105 * p1.toInt.toNat + 1 + 13 * p2.toInt.toNat)).toInt.toNat
        · rw [e, pk_us, pk_un (by omega)]
          intro e2
          exact nn p (by omega) (by rw [← e2]; omega)
        · rw [pk_un e, pk_un (by omega)]; exact hR.ne (by omega) (by omega) (by omega)) hh (a9 p2 ek _ _ hR n11)
      exact a8.uniq (b9 E m2 _ (by rw [show nPt p2.toInt (f (0 + 105 * p1.toInt.toNat + 1 + 13 * p2.toInt.toNat)).toInt = (f (0 + 105 * p1.toInt.toNat + 1 + 13 * p2.toInt.toNat)).toInt from if_neg c]; omega))

theorem put_ST {nw ns : Int} {sh st lv f sh' st' lv' f' : Nat → Int32} {p0 p1 p2 : Int32} (h : ST sh st lv f 0 nw ns) (hv : SV f) (h12 : nw ≤ 12) (hok : OKP p0.toInt p1.toInt p2.toInt nw ns (stF sh st p1 12).toInt) (ho : (sh p0.toInt.toNat).toInt = -1)
    (A : ∀ k : Int32, k.toInt = plc p2.toInt (stF sh st p1 12).toInt → sh' = upd sh p0.toInt.toNat p1 ∧ st' = upd st p0.toInt.toNat k ∧ (∀ j : Nat, ¬ j = p0.toInt.toNat → lv' j = lv j) ∧ (lv' p0.toInt.toNat).toInt = ((cnB (std sh st p1 k) 12 : Nat) : Int)) (B : PTS f f' 0 p0 p1 p2) : ST sh' st' lv' f' 0 nw ns := by
  obtain ⟨z1, z2, z3, z4⟩ := hok
  have n4 := h.2.2.2.2.2.2
  have sk := h.stacks hv (by decide) z2.1 z2.2
  have c8 := hv.c8 (b := 0) (s := p1.toInt.toNat) (by decide) (by omega)
  have B0 : 460 * 0 + 105 * p1.toInt.toNat = 0 + 105 * p1.toInt.toNat := by omega
  have c8' := c8
  rw [B0] at c8'
  by_cases c : p2.toInt = -1
  · have pe : plc p2.toInt (stF sh st p1 12).toInt = (stF sh st p1 12).toInt := if_pos c
    have pe' : plc p2.toInt (f (0 + 105 * p1.toInt.toNat)).toInt = (f (0 + 105 * p1.toInt.toNat)).toInt := if_pos c
    obtain ⟨a1, a2, a3, a4⟩ := A (nI (stF sh st p1 12).toInt.toNat) (by rw [pe, nI_of9 (by omega) (by omega)])
    have hR := h.row0 (s := p1) (k := nI (stF sh st p1 12).toInt.toNat) z2.1 (by rw [nI_of9 (by omega) (by omega)]; omega) (fun _ => 0)
    rw [hR.size] at a4
    obtain ⟨b0, b1, b2, b3, b4⟩ := B (f (0 + 105 * p1.toInt.toNat)).toInt.toNat 0 (by rw [pe', ← B0]; omega) (if_pos c).symm
    rw [if_pos c] at b1
    refine ST.put h hv (by decide) (w0 := p0.toInt.toNat) (s0 := p1.toInt.toNat) (k0 := (f (0 + 105 * p1.toInt.toNat)).toInt.toNat) (n0 := 0) (by omega) (by omega) (by omega) (by omega) (by omega) ho (Or.inr ⟨by rw [B0]; omega, rfl, by rw [B0]; omega⟩) (by rw [a1, pk_us]; omega) (by rw [a2, pk_us, nI_of9 (by omega) (by omega), sk, B0]; omega) (by rw [a4]) (fun j hj => by rw [a1, pk_un hj]) (fun j hj => by rw [a2, pk_un hj]) a3 (by rw [B0]; exact b2) (by rw [B0, b3]; omega) (fun j j0 j1 j2 j3 => b4 j (by omega) (by rw [← B0]; exact j1) (by rw [← B0]; exact j2) (by rw [← B0]; exact j3))
  · have pe : plc p2.toInt (stF sh st p1 12).toInt = p2.toInt := if_neg c
    have pe' : plc p2.toInt (f (0 + 105 * p1.toInt.toNat)).toInt = p2.toInt := if_neg c
    obtain ⟨a1, a2, a3, a4⟩ := A p2 pe.symm
    have hR := h.row hv (by decide) (s := p1) (k := p2) z2.1 z2.2 (by omega) (by omega)
    rw [hR.size] at a4
    have zz := hv.z12 (b := 0) (s := p1.toInt.toNat) (k := p2.toInt.toNat) (by decide) (by omega) (by omega)
    obtain ⟨n11, _⟩ := hR.n11 (w := p0.toInt.toNat) (by omega) z2.1 ho
    obtain ⟨b0, b1, b2, b3, b4⟩ := B p2.toInt.toNat (f (460 * 0 + 105 * p1.toInt.toNat + 1 + 13 * p2.toInt.toNat)).toInt.toNat (by rw [pe']; omega) (by rw [show nPt p2.toInt (f (0 + 105 * p1.toInt.toNat + 1 + 13 * p2.toInt.toNat)).toInt = (f (0 + 105 * p1.toInt.toNat + 1 + 13 * p2.toInt.toNat)).toInt from if_neg c, ← B0]; omega)
    rw [if_neg c] at b1
    refine ST.put h hv (by decide) (w0 := p0.toInt.toNat) (s0 := p1.toInt.toNat) (k0 := p2.toInt.toNat) (n0 := (f (460 * 0 + 105 * p1.toInt.toNat + 1 + 13 * p2.toInt.toNat)).toInt.toNat) (by omega) (by omega) (by omega) (by omega) (by omega) ho (Or.inl ⟨by omega, by omega, by rw [B0]; omega⟩) (by rw [a1, pk_us]; omega) (by rw [a2, pk_us]; omega) (by rw [a4]) (fun j hj => by rw [a1, pk_un hj]) (fun j hj => by rw [a2, pk_un hj]) a3 (by rw [B0] at b2 ⊢; exact b2) (by rw [B0] at b3 ⊢; rw [b3]; omega) (fun j j0 j1 j2 j3 => b4 j (by omega) (by rw [← B0]; exact j1) (by rw [← B0]; exact j2) (by rw [← B0]; exact j3))

theorem ST.cst {sh st st' lv f : Nat → Int32} {b : Nat} {nw ns : Int} (h : ST sh st lv f b nw ns) (e : ∀ w : Nat, w < 12 → (st' w).toInt = (st w).toInt) : ST sh st' lv f b nw ns := ⟨fun w s k p hw => by rw [e w hw]; exact h.1 w s k p hw, h.2.1, h.2.2.1, h.2.2.2.1, fun w hw => by rw [e w hw]; exact h.2.2.2.2.1 w hw, h.2.2.2.2.2⟩
/-- where a ware is, for both -/
theorem ST.pos {sh st lv f : Nat → Int32} {b : Nat} {nw ns : Int} {s k q w : Nat} (h : ST sh st lv f b nw ns) (hw : w < 12) (i : IN f b ns s k q w) : (sh w).toInt = (s : Int) ∧ (st w).toInt = (k : Int) ∧ (lv w).toInt = (q : Int) := (h.1 w s k q hw).mpr i
/-- past the one at c -/
def skp (c : Int) (p : Nat) : Nat := if (p : Int) < c then p else p + 1
theorem skp_lt {c : Int} {p n : Nat} (h : p < n - 1) : skp c p < n := by unfold skp; split <;> omega
theorem skp_ne (c : Int) (p : Nat) : ¬ skp c (p + 1) = skp c p := by unfold skp; split <;> split <;> omega
theorem draw_eq {nw ns : Int} {wd dp wt br bk hb my ht rc rm : Nat → Int32} {lids tops nn : Int32} {t o a sh st lv f : Nat → Int32} {p0 : Int32} {x y : Int} (hT : TD nw wd dp wt br bk hb lids tops t) (hS : TSH ns ht rc rm t) (hM : MYR nw nn.toInt wd dp wt lids tops my t o a) (h : ST sh st lv f 0 nw ns) (hv : SV f) (h12 : nw ≤ 12)
    (A : PUTR (0 ≤ p0.toInt ∧ p0.toInt < nw) (¬ (sh p0.toInt.toNat).toInt = -1) False (fun x => ∀ (r : Nat → Int32) (n : Nat), ROW sh st lv (sh p0.toInt.toNat) (st p0.toInt.toNat) r n → RFZ (fun u l => BT (my l) u) wt br dp (rsC wd dp lids) (fun p => r (if (p : Int) < (lv p0.toInt.toNat).toInt then p else p + 1)) (n - 1) (ht (sh p0.toInt.toNat).toInt.toNat) x) x)
    (B : PUTR (0 ≤ p0.toInt ∧ p0.toInt < (t 0).toInt) (¬ NI f 0 p0 (t 1).toInt) False (fun x => ∃ s k q : Nat, IN f 0 (t 1).toInt s k q p0.toInt.toNat ∧ s < 4 ∧ k < 8 ∧ ∀ E : (Nat → (Nat → Int32) → Int32), ME6 t o a E → RFZ (fun u l => mayM t E u l) (wtM t) (brM t) (dpM t) (rsM t) (fun p => f (105 * s + 1 + 13 * k + 1 + (if (p : Int) < (q : Int) then p else p + 1))) ((f (105 * s + 1 + 13 * k)).toInt.toNat - 1) (t (99 + 3 * s)) x) y) : x = y := by
  have e0 := hT.1
  have e1 := hS.1
  have n4 := h.2.2.2.2.2.2
  refine PUTR.eq A B ⟨fun z => by omega, fun z => by omega⟩ (fun z => ⟨fun q z9 => ?_, fun q z9 => ?_⟩) (fun _ _ => Iff.rfl) (fun z q _ a9 b9 => ?_)
  · rw [← e1] at z9; exact q (h.out ⟨by omega, by omega⟩ z9 hv (by decide))
  · apply q; rw [← e1]; exact h.ni ⟨by omega, by omega⟩ z9
  · obtain ⟨E, m1, m2, m3⟩ := hM
    obtain ⟨s, k, q', i, s4, k8, b8⟩ := b9
    rw [← e1] at i
    have w12 : p0.toInt.toNat < 12 := by omega
    obtain ⟨j1, j2, j3⟩ := h.pos w12 i
    obtain ⟨i1, i2, i3, i4⟩ := i
    have es : (sh p0.toInt.toNat).toInt.toNat = s := by omega
    have ek : (st p0.toInt.toNat).toInt.toNat = k := by omega
    have hR := h.row hv (by decide) (s := sh p0.toInt.toNat) (k := st p0.toInt.toNat) (by omega) (by omega) (by omega) (by rw [es]; omega)
    rw [es, ek, show 460 * 0 + 105 * s = 105 * s by omega] at hR
    have zz := hv.z12 (b := 0) (s := s) (k := k) (by decide) s4 k8
    rw [show 460 * 0 + 105 * s = 105 * s by omega] at zz i3
    have hM' : ∀ u l : Nat, (u : Int) < nw → (l : Int) < nw → ¬ u = l → BT (my l) u = mayM t E u l := fun u l hu hl hul => MYR.may hT h12 m1 m2 m3 hu hl hul
    have hh : ht (sh p0.toInt.toNat).toInt.toNat = t (99 + 3 * s) := by rw [es]; exact (i_eq _ _).mpr (hS.2 s (by omega)).1
    have nw' : ∀ p : Nat, p < (f (105 * s + 1 + 13 * k)).toInt.toNat → 0 ≤ (f (105 * s + 1 + 13 * k + 1 + p)).toInt ∧ (f (105 * s + 1 + 13 * k + 1 + p)).toInt < nw := fun p hp => ROW.nw h (s := sh p0.toInt.toNat) (by omega) hR (p := p) hp
    have a7 := a9 _ _ hR
    obtain ⟨N, hN⟩ : ∃ N : Nat, N = (f (105 * s + 1 + 13 * k)).toInt.toNat := ⟨_, rfl⟩
    obtain ⟨A, hA⟩ : ∃ A : Nat, A = 105 * s + 1 + 13 * k + 1 := ⟨_, rfl⟩
    rw [← hN] at a7 hR nw'
    rw [j3] at a7
    have b7 := b8 E m2
    rw [← hN, ← hA] at b7
    rw [← hA] at a7 hR nw'
    have hr : ∀ p : Nat, p < N - 1 → 0 ≤ (f (A + skp (q' : Int) p)).toInt ∧ (f (A + skp (q' : Int) p)).toInt < nw := fun p hp => nw' (skp (q' : Int) p) (skp_lt hp)
    have hd : ∀ p : Nat, p + 1 < N - 1 → ¬ f (A + skp (q' : Int) (p + 1)) = f (A + skp (q' : Int) p) := fun p hp => by
      have l1 : skp (q' : Int) (p + 1) < N := skp_lt hp
      have l2 : skp (q' : Int) p < N := skp_lt (Nat.lt_of_succ_lt hp)
      exact ROW.ne hR l1 l2 (skp_ne _ p)
    exact (RFZ.CM hT hM' (r := fun p => f (A + skp (q' : Int) p)) hr hd hh a7).uniq b7
theorem draw_ST {nw ns : Int} {sh st lv f sh' st' lv' f' : Nat → Int32} {p0 : Int32} {s k q : Nat} (h : ST sh st lv f 0 nw ns) (hv : SV f) (hp : 0 ≤ p0.toInt ∧ p0.toInt < 12) (i : IN f 0 ns s k q p0.toInt.toNat) (s4 : s < 4) (k8 : k < 8) (A : sh' = upd sh p0.toInt.toNat (-1) ∧ (∀ j : Nat, j < 12 → (lv' j).toInt = snk sh st lv p0.toInt.toNat j) ∧ ∀ j : Nat, j < 12 → (st' j).toInt = rmS sh' st (sh p0.toInt.toNat) (st p0.toInt.toNat) j) (B : DRW f f' s k q) : ST sh' st' lv' f' 0 nw ns := by
  obtain ⟨a1, a2, a3⟩ := A
  have w12 : p0.toInt.toNat < 12 := by omega
  have j := h.pos w12 i
  obtain ⟨j1, j2, j3⟩ := j
  have c1 : (sh' p0.toInt.toNat).toInt = -1 := by rw [a1, pk_us]; rfl
  have c2 : ∀ w, w < 12 → ¬ w = p0.toInt.toNat → sh' w = sh w := fun w _ e => by rw [a1, pk_un e]
  have c3 : ∀ w, w < 12 → (lv' w).toInt = if (sh w).toInt = (s : Int) ∧ (st w).toInt = (k : Int) ∧ (q : Int) < (lv w).toInt then (lv w).toInt - 1 else (lv w).toInt := fun w hw => by
    rw [a2 w hw]
    unfold snk
    by_cases z : sh w = sh p0.toInt.toNat ∧ st w = st p0.toInt.toNat ∧ (lv p0.toInt.toNat).toInt < (lv w).toInt
    · rw [if_pos z, if_pos ⟨by rw [z.1]; exact j1, by rw [z.2.1]; exact j2, by omega⟩]
    · rw [if_neg z, if_neg (fun y => z ⟨(i_eq _ _).mpr (by omega), (i_eq _ _).mpr (by omega), by omega⟩)]
  have i' := i
  obtain ⟨i1, i2, i3, i4⟩ := i'
  have zz := hv.z12 (b := 0) (s := s) (k := k) (by decide) s4 k8
  have B0 : ∀ z : Nat, 460 * 0 + 105 * z = 105 * z := fun z => by omega
  rw [B0] at i2 i3 i4 zz
  rcases (by omega : 2 ≤ (f (105 * s + 1 + 13 * k)).toInt ∨ (f (105 * s + 1 + 13 * k)).toInt = 1) with c | c
  · obtain ⟨b1, b2, b3⟩ := B.1 c
    -- another one is left there
    have ne : ¬ cnB (std sh' st (sh p0.toInt.toNat) (st p0.toInt.toNat)) 12 = 0 := by
      obtain ⟨v, v1, v2, v3, v4, v5⟩ := h.bw hv (by decide) (s := s) (k := k) (p := if q = 0 then 1 else 0) i1 (by rw [B0]; exact i2) (by rw [B0]; split <;> omega)
      have vn : ¬ v = p0.toInt.toNat := fun z => by rw [z] at v5; split at v5 <;> omega
      have := cnB_ge (P := std sh' st (sh p0.toInt.toNat) (st p0.toInt.toNat)) (w := v) (std_iff.mpr ⟨by rw [c2 v v1 vn]; exact (i_eq _ _).mpr (by omega), (i_eq _ _).mpr (by omega)⟩) 12 v1
      omega
    refine ST.cst (st := st) ?_ (fun w hw => by rw [a3 w hw]; exact if_neg ne)
    refine ST.drawA h hv (by decide) w12 ⟨j1, j2, j3⟩ s4 k8 (by rw [B0]; exact c) c1 c2 c3 (by rw [B0]; exact b1) (fun p hp => by rw [B0] at hp ⊢; exact b2 p hp) (fun z hz => by rw [B0]; exact b3 _ (by omega) (by rcases Nat.lt_or_ge s z with g | g; (right; omega); (left; omega))) (fun z y r hz hy hr hn => ?_)
    rw [B0]
    refine b3 _ (by omega) ?_
    rcases Nat.lt_trichotomy z s with g | g | g
    · left; omega
    · subst g
      rcases Nat.lt_trichotomy y k with g | g | g
      · left; omega
      · exact absurd ⟨rfl, g⟩ hn
      · right; omega
    · right; omega
  · have al : ∀ w, w < 12 → (sh w).toInt = (s : Int) → (st w).toInt = (k : Int) → w = p0.toInt.toNat := fun w hw y1 y2 => by
      have v := h.2.2.2.2.2.1 w hw
      have g := (h.1 w s k (lv w).toInt.toNat hw).mp ⟨y1, y2, by omega⟩
      obtain ⟨_, _, g3, g4⟩ := g
      rw [B0] at g3 g4
      rw [show (lv w).toInt.toNat = q by omega] at g4
      omega
    have ze : cnB (std sh' st (sh p0.toInt.toNat) (st p0.toInt.toNat)) 12 = 0 := cnB_0 12 (fun w hw z => by
      obtain ⟨y1, y2⟩ := std_iff.mp z
      by_cases e : w = p0.toInt.toNat
      · rw [e] at y1; rw [y1] at c1; omega
      · rw [c2 w hw e] at y1
        exact e (al w hw (by rw [y1]; exact j1) (by rw [y2]; exact j2)))
    obtain ⟨b1, b2, b3⟩ := B.2 c
    refine ST.drawB (p0 := q) h hv (by decide) w12 ⟨j1, j2, j3⟩ s4 k8 (by rw [B0]; exact c) c1 c2 c3 (fun w hw => ?_) (by rw [B0]; exact b1) (fun y r q1 q2 q3 => by rw [B0] at q2 ⊢; exact b2 y r q1 q2 q3) (fun z hz hn => ?_) (fun z y r hz hy hr hn => ?_)
    · rw [a3 w hw, show rmS sh' st (sh p0.toInt.toNat) (st p0.toInt.toNat) w = gpf sh' st (sh p0.toInt.toNat) (st p0.toInt.toNat) w from if_pos ze]
      unfold gpf
      by_cases z : sh' w = sh p0.toInt.toNat ∧ (st p0.toInt.toNat).toInt < (st w).toInt
      · rw [if_pos z, if_pos ⟨by rw [z.1]; exact j1, by omega⟩]
      · rw [if_neg z, if_neg (fun y => z ⟨(i_eq _ _).mpr (by omega), by omega⟩)]
    · rw [B0]
      refine b3 _ (by omega) (by omega) ?_
      rcases Nat.lt_or_ge z s with g | g
      · left; omega
      · right; omega
    · rw [B0]
      have n1 : ¬ 105 * z + 1 + 13 * y + r = 105 * s := by
        rcases Nat.lt_or_ge z s with g | g
        · omega
        · omega
      refine b3 _ (by omega) n1 ?_
      rcases Nat.lt_trichotomy z s with g | g | g
      · left; omega
      · subst g; left; omega
      · right; omega

theorem hiF_CM {w : Int} {wd dp wt br bk hb : Nat → Int32} {lids tops : Int32} {t : Nat → Int32} (hT : TD w wd dp wt br bk hb lids tops t) {r : Nat → Int32} {n : Nat} (hr : ∀ p, p < n → 0 ≤ (r p).toInt ∧ (r p).toInt < w) : hiF (rsC wd dp lids) dp r n = hiF (rsM t) (dpM t) r n :=
  hiF_cong n (fun q hq => by
    have a1 := hr q (by omega)
    have a2 := hr (q + 1) hq
    exact hT.rs (by omega) (by omega)) (fun q hq => by have a1 := hr q hq; exact hT.dp (by omega))
theorem carry_eq {nw ns : Int} {wd dp wt br bk hb ht rc rm : Nat → Int32} {lids tops : Int32} {t sh st lv f : Nat → Int32} {p0 p1 p2 : Int32} {x y : Int} (hT : TD nw wd dp wt br bk hb lids tops t) (hS : TSH ns ht rc rm t) (h : ST sh st lv f 0 nw ns) (hv : SV f) (hC : CRs f t 0)
    (A : PUTR ((0 ≤ p0.toInt ∧ p0.toInt < ns ∧ 0 ≤ p1.toInt ∧ p1.toInt < (stF sh st p0 12).toInt) ∧ (0 ≤ p2.toInt ∧ p2.toInt < ns) ∧ ¬ p0.toInt = p2.toInt) True ((rm p2.toInt.toNat).toInt ≤ (stF sh st p2 12).toInt) (fun x => ∀ (r : Nat → Int32) (n : Nat), ROW sh st lv p0 p1 r n → (x = 6 ∧ ht p2.toInt.toNat < hiF (rsC wd dp lids) dp r n) ∨ (x = 0 ∧ ¬ ht p2.toInt.toNat < hiF (rsC wd dp lids) dp r n)) x)
    (B : PUTR ((0 ≤ p0.toInt ∧ p0.toInt < (t 1).toInt ∧ 0 ≤ p1.toInt ∧ p1.toInt < (f (0 + 105 * p0.toInt.toNat)).toInt) ∧ (0 ≤ p2.toInt ∧ p2.toInt < (t 1).toInt) ∧ ¬ p0.toInt = p2.toInt) True ((f (0 + 105 * p2.toInt.toNat)).toInt = (t (101 + 3 * p2.toInt.toNat)).toInt) (fun x => (x = 6 ∧ t (99 + 3 * p2.toInt.toNat) < hiF (rsM t) (dpM t) (fun p => f (105 * p0.toInt.toNat + 1 + 13 * p1.toInt.toNat + 1 + p)) (f (105 * p0.toInt.toNat + 1 + 13 * p1.toInt.toNat)).toInt.toNat) ∨ (x = 0 ∧ ¬ t (99 + 3 * p2.toInt.toNat) < hiF (rsM t) (dpM t) (fun p => f (105 * p0.toInt.toNat + 1 + 13 * p1.toInt.toNat + 1 + p)) (f (105 * p0.toInt.toNat + 1 + 13 * p1.toInt.toNat)).toInt.toNat)) y) : x = y := by
  have e1 := hS.1
  have n4 := h.2.2.2.2.2.2
  have sk : ∀ z : Int32, 0 ≤ z.toInt → z.toInt < ns → (stF sh st z 12).toInt = (f (0 + 105 * z.toInt.toNat)).toInt := fun z q1 q2 => by
    have y := h.stacks hv (by decide) q1 q2
    rw [show 460 * 0 + 105 * z.toInt.toNat = 0 + 105 * z.toInt.toNat by omega] at y; exact y
  refine PUTR.eq A B ⟨fun z => ?_, fun z => ?_⟩ (fun _ => Iff.rfl) (fun z _ => ?_) (fun z _ _ a9 b9 => ?_)
  · obtain ⟨⟨z1, z2, z3, z4⟩, z5, z6⟩ := z
    have := sk p0 z1 z2
    exact ⟨⟨z1, by omega, z3, by omega⟩, ⟨by omega, by omega⟩, z6⟩
  · obtain ⟨⟨z1, z2, z3, z4⟩, z5, z6⟩ := z
    have := sk p0 z1 (by omega)
    exact ⟨⟨z1, by omega, z3, by omega⟩, ⟨by omega, by omega⟩, z6⟩
  · obtain ⟨_, z5, _⟩ := z
    have k2 := sk p2 z5.1 z5.2
    have r9 := (hS.2 p2.toInt.toNat (by omega)).2.2
    have c9 := hC p2.toInt.toNat (by omega)
    rw [show 460 * 0 + 105 * p2.toInt.toNat = 0 + 105 * p2.toInt.toNat by omega] at c9
    rw [show 99 + 3 * p2.toInt.toNat + 2 = 101 + 3 * p2.toInt.toNat by omega] at r9
    constructor
    · intro y; omega
    · intro y; omega
  · obtain ⟨⟨z1, z2, z3, z4⟩, z5, z6⟩ := z
    have k1 := sk p0 z1 z2
    have B0 : 460 * 0 + 105 * p0.toInt.toNat = 105 * p0.toInt.toNat := by omega
    have B1 : 460 * 0 + 105 * p0.toInt.toNat = 0 + 105 * p0.toInt.toNat := by omega
    have hR := h.row hv (by decide) (s := p0) (k := p1) z1 z2 z3 (by rw [B1]; omega)
    rw [B0] at hR
    have hh : ht p2.toInt.toNat = t (99 + 3 * p2.toInt.toNat) := (i_eq _ _).mpr (hS.2 p2.toInt.toNat (by omega)).1
    have a8 := a9 _ _ hR
    rw [hiF_CM hT (fun p hp => ROW.nw h z1 hR hp), hh] at a8
    rcases a8 with ⟨a1, a2⟩ | ⟨a1, a2⟩
    · rcases b9 with ⟨b1, b2⟩ | ⟨b1, b2⟩
      · omega
      · exact absurd a2 b2
    · rcases b9 with ⟨b1, b2⟩ | ⟨b1, b2⟩
      · exact absurd b2 a2
      · omega
theorem far_stk {z y r t c : Nat} (hy : y < 8) (hr : r < 13) (hn : ¬ (z = t ∧ y = c)) (hc : c < 8 := by omega) : 105 * z + 1 + 13 * y + r < 105 * t + 1 + 13 * c ∨ 105 * t + 13 + 13 * c < 105 * z + 1 + 13 * y + r := by
  rcases Nat.lt_trichotomy z t with g | g | g
  · left; omega
  · subst g
    rcases Nat.lt_trichotomy y c with g | g | g
    · left; omega
    · exact absurd ⟨rfl, g⟩ hn
    · right; omega
  · right; omega
theorem carry_ST {nw ns : Int} {sh st lv f sh' st' f1 f' : Nat → Int32} {p0 p1 p2 : Int32} (h : ST sh st lv f 0 nw ns) (hv : SV f) (hv1 : SV f1) (hok : (0 ≤ p0.toInt ∧ p0.toInt < ns ∧ 0 ≤ p1.toInt ∧ p1.toInt < (stF sh st p0 12).toInt) ∧ (0 ≤ p2.toInt ∧ p2.toInt < ns) ∧ ¬ p0.toInt = p2.toInt) (c7 : (f (0 + 105 * p2.toInt.toNat)).toInt ≤ 7)
    (A : (∀ j : Nat, j < 12 → (sh' j).toInt = mvS sh st p0 p1 p2 j) ∧ ∀ j : Nat, j < 12 → (st' j).toInt = mvG sh st p0 p1 p2 (stF sh st p2 12) j) (B : CRY f f1 p0.toInt.toNat p1.toInt.toNat p2.toInt.toNat (f (0 + 105 * p2.toInt.toNat)).toInt.toNat) (G : GAW f1 f' p0.toInt.toNat p1.toInt.toNat) : ST sh' st' lv f' 0 nw ns := by
  obtain ⟨⟨z1, z2, z3, z4⟩, z5, z6⟩ := hok
  have n4 := h.2.2.2.2.2.2
  have s0 := h.stacks hv (by decide) z1 z2
  have s2 := h.stacks hv (by decide) z5.1 z5.2
  have B0 : ∀ z : Nat, 460 * 0 + 105 * z = 105 * z := fun z => by omega
  have Z0 : ∀ z : Nat, 0 + 105 * z = 105 * z := fun z => by omega
  rw [B0] at s0 s2
  rw [Z0] at c7 B
  have c0 := hv.c8 (b := 0) (s := p0.toInt.toNat) (by decide) (by omega)
  have c2 := hv.c8 (b := 0) (s := p2.toInt.toNat) (by decide) (by omega)
  rw [B0] at c0 c2
  obtain ⟨b1, b2, b3, b4⟩ := B
  obtain ⟨g1, g2, g3⟩ := G
  have zz := hv.z12 (b := 0) (s := p0.toInt.toNat) (k := p1.toInt.toNat) (by decide) (by omega) (by omega)
  rw [B0] at zz
  refine ST.carry (st1 := fun j => nI (mvT sh st p0 p1 (stF sh st p2 12) j).toNat) (f1 := f1) (s0 := p0.toInt.toNat) (k0 := p1.toInt.toNat) (t0 := p2.toInt.toNat) (c0 := (f (105 * p2.toInt.toNat)).toInt.toNat) h hv hv1 (by decide) (by omega) (by omega) (by omega) (by omega) (by rw [B0]; omega) (by omega) (by rw [B0]; omega) (by omega) (fun w hw => ?_) (fun w hw => ?_) (fun w hw => ?_) (by rw [B0]; exact b1) (by rw [B0, B0]; exact b2) (fun p hp => by rw [B0] at hp; rw [B0, B0]; exact b3 p hp) (fun z hz hn => by rw [B0]; exact b4 _ (by omega) (by omega) (by rcases Nat.lt_or_ge z p2.toInt.toNat with g | g; (left; omega); (right; omega))) (fun z y r hz hy hr hn => by rw [B0]; exact b4 _ (by omega) (by rcases Nat.lt_or_ge z p2.toInt.toNat with g | g; omega; omega) (far_stk hy hr hn)) (by rw [B0]; exact g1) (fun y r q1 q2 q3 => by rw [B0] at q2 ⊢; exact g2 y r q1 q2 q3) (fun z hz hn => by rw [B0]; exact g3 _ (by omega) (by omega) (by rcases Nat.lt_or_ge z p0.toInt.toNat with g | g; (left; omega); (right; omega))) (fun z y r hz hy hr hn => by rw [B0]; exact g3 _ (by omega) (by rcases Nat.lt_or_ge z p0.toInt.toNat with g | g; omega; omega) (by rcases Nat.lt_trichotomy z p0.toInt.toNat with g | g | g; (left; omega); (left; omega); (right; omega)))
  · rw [A.1 w hw]
    unfold mvS
    by_cases q : sh w = p0 ∧ st w = p1
    · rw [if_pos q, if_pos ⟨by rw [q.1]; omega, by rw [q.2]; omega⟩]; omega
    · rw [if_neg q, if_neg (fun y => q ⟨(i_eq _ _).mpr (by omega), (i_eq _ _).mpr (by omega)⟩)]
  · have v := h.2.2.2.2.1 w hw
    show (nI (mvT sh st p0 p1 (stF sh st p2 12) w).toNat).toInt = _
    unfold mvT
    by_cases q : sh w = p0 ∧ st w = p1
    · rw [if_pos q, if_pos ⟨by rw [q.1]; omega, by rw [q.2]; omega⟩, nI_of9 (by omega) (by omega)]; omega
    · rw [if_neg q, if_neg (fun y => q ⟨(i_eq _ _).mpr (by omega), (i_eq _ _).mpr (by omega)⟩), nI_of9 (by omega) (by omega)]
  · have v := h.2.2.2.2.1 w hw
    have m0 : 0 ≤ mvT sh st p0 p1 (stF sh st p2 12) w ∧ mvT sh st p0 p1 (stF sh st p2 12) w < 100 := by
      unfold mvT; split <;> omega
    show (st' w).toInt = if (sh' w).toInt = ((p0.toInt.toNat : Nat) : Int) ∧ ((p1.toInt.toNat : Nat) : Int) < (nI (mvT sh st p0 p1 (stF sh st p2 12) w).toNat).toInt then (nI (mvT sh st p0 p1 (stF sh st p2 12) w).toNat).toInt - 1 else (nI (mvT sh st p0 p1 (stF sh st p2 12) w).toNat).toInt
    rw [nI_of9 m0.1 (by omega), A.1 w hw, A.2 w hw]
    unfold mvG
    by_cases q : mvS sh st p0 p1 p2 w = p0.toInt ∧ p1.toInt < mvT sh st p0 p1 (stF sh st p2 12) w
    · rw [if_pos q, if_pos ⟨by omega, by omega⟩]
    · rw [if_neg q, if_neg (fun y => q ⟨by omega, by omega⟩)]

theorem TSH.of {w s : Int} {wd dp wt br bk hb : Nat → Int32} {lids : Int32} {ht rc rm : Nat → Int32} {nm : Nat → Int64} {t t' hb' : Nat → Int32} {S : ((Nat → Int64) × Nat × (Nat → Int64) × Nat × (Nat → Bool) × (Nat → Bool) × Nat)} {N : ((Nat → Nat → Int) × (Nat → Bool) × (Nat → Nat → Int))} (h1 : s = ((S.2.2.2.1 : Nat) : Int)) (h3 : CW wd dp wt br bk hb lids ht rc rm w s N) (h4 : MRb nm t hb' S) (h5 : MW t N) (h6 : ∀ j : Nat, j < 120 → t' j = t (120 + j)) (h9 : s ≤ 4) : TSH s ht rc rm t' := by
  obtain ⟨x1, x2, x3, x4, x5, x6⟩ := h5
  have e0 : (t' 1).toInt = (t 121).toInt := by rw [h6 1 (by decide)]
  have e1 : (t 121).toInt = s := by rw [h4.1.1.2.1, h1]
  refine ⟨by omega, fun j hj => ?_⟩
  have hj2 : (j : Int) < (t 121).toInt := by omega
  obtain ⟨a0, a1, a2⟩ := h3.2.2.2 j hj
  have m (k : Nat) (hk : k < 3) : (t' (99 + 3 * j + k)).toInt = N.2.2 j k := by
    rw [h6 (99 + 3 * j + k) (by omega), show 120 + (99 + 3 * j + k) = 219 + 3 * j + k by omega]; exact x4 j hj2 k hk
  exact ⟨a0.trans (m 0 (by decide)).symm, a1.trans (m 1 (by decide)).symm, a2.trans (m 2 (by decide)).symm⟩
theorem TSH.fr {s : Int} {ht rc rm t t' : Nat → Int32} (h : TSH s ht rc rm t) (h9 : s ≤ 4) (hf : Fr 120 t t') : TSH s ht rc rm t' := by
  obtain ⟨a, b⟩ := h
  refine ⟨by rw [hf 1 (by decide)]; exact a, fun j hj => ?_⟩
  rw [hf (99 + 3 * j) (by omega), hf (99 + 3 * j + 1) (by omega), hf (99 + 3 * j + 2) (by omega)]
  exact b j hj

/-- the reference's sum is the class's price -/
theorem lc_pr {wt r : Nat → Int32} {rc : Int32} {q : Nat} : ∀ n : Nat, q < n → n ≤ 12 → lcF wt r rc q n = prC wt r (nI q) (nI n) rc := by
  intro n
  induction n with
  | zero => intro h; exact absurd h (Nat.not_lt_zero q)
  | succ n ih =>
    intro h1 h2
    have eq : (nI q).toInt.toNat = q := by rw [nI_toInt (by omega)]; omega
    have en : (nI (n + 1)).toInt.toNat = n + 1 := by rw [nI_toInt (by omega)]; omega
    have e1 : nI (n + 1) = nI n + 1 := (nI_1 n).symm
    rw [lcF_s, if_pos (by omega)]
    unfold prC
    rw [eq, en, e1]
    by_cases c : n = q
    · rw [if_pos c, lcF_0 _ _ _ (by omega), wtF_0 _ _ (by omega), c]
      exact (rg_1 _ _ _ _ _ rfl rfl).symm
    · have i := ih (by omega) (by omega)
      have en2 : (nI n).toInt.toNat = n := by rw [nI_toInt (by omega)]; omega
      unfold prC at i
      rw [eq, en2] at i
      rw [if_neg c, i, wtF_top _ _ _ (by omega)]
      exact (rg_2 _ _ _ _ _ _).symm

theorem stk_iff {ns : Int} {t sh st lv f ht rc rm : Nat → Int32} {nw : Int} {p0 p1 : Int32} (hS : TSH ns ht rc rm t) (h : ST sh st lv f 0 nw ns) (hv : SV f) : (0 ≤ p0.toInt ∧ p0.toInt < ns ∧ 0 ≤ p1.toInt ∧ p1.toInt < (stF sh st p0 12).toInt) ↔ (0 ≤ p0.toInt ∧ p0.toInt < (t 1).toInt ∧ 0 ≤ p1.toInt ∧ p1.toInt < (f (0 + 105 * p0.toInt.toNat)).toInt) := by
  have e1 := hS.1
  have sk : 0 ≤ p0.toInt → p0.toInt < ns → (stF sh st p0 12).toInt = (f (0 + 105 * p0.toInt.toNat)).toInt := fun q1 q2 => by
    have y := h.stacks hv (by decide) q1 q2
    rw [show 460 * 0 + 105 * p0.toInt.toNat = 0 + 105 * p0.toInt.toNat by omega] at y; exact y
  constructor
  · rintro ⟨z1, z2, z3, z4⟩
    have := sk z1 z2
    exact ⟨z1, by omega, z3, by omega⟩
  · rintro ⟨z1, z2, z3, z4⟩
    have := sk z1 (by omega)
    exact ⟨z1, by omega, z3, by omega⟩
theorem ST.row1 {ns : Int} {sh st lv f : Nat → Int32} {nw : Int} {p0 p1 : Int32} (h : ST sh st lv f 0 nw ns) (hv : SV f) (z : 0 ≤ p0.toInt ∧ p0.toInt < ns ∧ 0 ≤ p1.toInt ∧ p1.toInt < (stF sh st p0 12).toInt) : ROW sh st lv p0 p1 (fun p => f (105 * p0.toInt.toNat + 1 + 13 * p1.toInt.toNat + 1 + p)) (f (105 * p0.toInt.toNat + 1 + 13 * p1.toInt.toNat)).toInt.toNat ∧ 0 ≤ (f (105 * p0.toInt.toNat + 1 + 13 * p1.toInt.toNat)).toInt := by
  obtain ⟨z1, z2, z3, z4⟩ := z
  have n4 := h.2.2.2.2.2.2
  have sk := h.stacks hv (by decide) z1 z2
  have c8 := hv.c8 (b := 0) (s := p0.toInt.toNat) (by decide) (by omega)
  have hR := h.row hv (by decide) (s := p0) (k := p1) z1 z2 z3 (by omega)
  have zz := hv.z12 (b := 0) (s := p0.toInt.toNat) (k := p1.toInt.toNat) (by decide) (by omega) (by omega)
  rw [show 460 * 0 + 105 * p0.toInt.toNat = 105 * p0.toInt.toNat by omega] at hR zz
  exact ⟨hR, zz.1⟩
theorem at_eq {nw ns : Int} {t sh st lv f ht rc rm : Nat → Int32} {p0 p1 p2 : Int32} {x y : Int} (hS : TSH ns ht rc rm t) (h : ST sh st lv f 0 nw ns) (hv : SV f)
    (A : GRD (0 ≤ p0.toInt ∧ p0.toInt < ns ∧ 0 ≤ p1.toInt ∧ p1.toInt < (stF sh st p0 12).toInt) (-1) (fun x => ∀ (r : Nat → Int32) (n : Nat), ROW sh st lv p0 p1 r n → x = atF p2 r (n : Int)) x)
    (B : GRD (0 ≤ p0.toInt ∧ p0.toInt < (t 1).toInt ∧ 0 ≤ p1.toInt ∧ p1.toInt < (f (0 + 105 * p0.toInt.toNat)).toInt) (-1) (fun x => x = atF p2 (fun p => f (105 * p0.toInt.toNat + 1 + 13 * p1.toInt.toNat + 1 + p)) (f (105 * p0.toInt.toNat + 1 + 13 * p1.toInt.toNat)).toInt) y) : x = y := by
  refine GRD.eq A B (stk_iff hS h hv) (fun z a b => ?_)
  obtain ⟨hR, n0⟩ := h.row1 hv z
  rw [a _ _ hR, b, Int.toNat_of_nonneg n0]
theorem stack_eq {nw ns : Int} {wd dp wt br bk hb : Nat → Int32} {lids tops : Int32} {t sh st lv f ht rc rm : Nat → Int32} {p0 p1 p2 : Int32} {x y : Int} (hT : TD nw wd dp wt br bk hb lids tops t) (hS : TSH ns ht rc rm t) (h : ST sh st lv f 0 nw ns) (hv : SV f)
    (A : GRD (0 ≤ p0.toInt ∧ p0.toInt < ns ∧ 0 ≤ p1.toInt ∧ p1.toInt < (stF sh st p0 12).toInt) (-1) (fun x => ∀ (r : Nat → Int32) (n : Nat), ROW sh st lv p0 p1 r n → x = skF p2.toInt (n : Int) (hiF (rsC wd dp lids) dp r n).toInt (wtF wt r 0 n).toInt) x)
    (B : GRD (0 ≤ p0.toInt ∧ p0.toInt < (t 1).toInt ∧ 0 ≤ p1.toInt ∧ p1.toInt < (f (0 + 105 * p0.toInt.toNat)).toInt) (-1) (fun x => x = skF p2.toInt (f (105 * p0.toInt.toNat + 1 + 13 * p1.toInt.toNat)).toInt (hiF (rsM t) (dpM t) (fun p => f (105 * p0.toInt.toNat + 1 + 13 * p1.toInt.toNat + 1 + p)) (f (105 * p0.toInt.toNat + 1 + 13 * p1.toInt.toNat)).toInt.toNat).toInt (wtF (wtM t) (fun p => f (105 * p0.toInt.toNat + 1 + 13 * p1.toInt.toNat + 1 + p)) 0 (f (105 * p0.toInt.toNat + 1 + 13 * p1.toInt.toNat)).toInt.toNat).toInt) y) : x = y := by
  refine GRD.eq A B (stk_iff hS h hv) (fun z a b => ?_)
  obtain ⟨hR, n0⟩ := h.row1 hv z
  have nw' := fun p hp => ROW.nw h z.1 hR (p := p) hp
  rw [a _ _ hR, b, Int.toNat_of_nonneg n0, hiF_CM hT nw', wtF_cong (wt := wt) (wt' := wtM t) _ (fun p _ hp => by have a1 := nw' p hp; exact hT.wt (by omega))]
theorem shelf_eq {nw ns : Int} {t sh st lv f ht rc rm : Nat → Int32} {p0 p1 : Int32} {x y : Int} (hS : TSH ns ht rc rm t) (h : ST sh st lv f 0 nw ns) (hv : SV f)
    (A : GRD (0 ≤ p0.toInt ∧ p0.toInt < ns) (-1) (fun x => x = shF p1.toInt (ht p0.toInt.toNat).toInt (rc p0.toInt.toNat).toInt (rm p0.toInt.toNat).toInt (stF sh st p0 12).toInt) x)
    (B : GRD (0 ≤ p0.toInt ∧ p0.toInt < (t 1).toInt) (-1) (fun x => x = shF p1.toInt (t (99 + 3 * p0.toInt.toNat)).toInt (t (99 + 3 * p0.toInt.toNat + 1)).toInt (t (99 + 3 * p0.toInt.toNat + 2)).toInt (f (0 + 105 * p0.toInt.toNat)).toInt) y) : x = y := by
  have e1 := hS.1
  refine GRD.eq A B ⟨fun z => by omega, fun z => by omega⟩ (fun z a b => ?_)
  obtain ⟨a0, a1, a2⟩ := hS.2 p0.toInt.toNat (by omega)
  have sk := h.stacks hv (by decide) z.1 z.2
  rw [show 460 * 0 + 105 * p0.toInt.toNat = 0 + 105 * p0.toInt.toNat by omega] at sk
  rw [a, b, a0, a1, a2, sk]
/-- a ware is in: for both -/
theorem in_iff {nw ns : Int} {wd dp wt br bk hb : Nat → Int32} {lids tops : Int32} {t sh st lv f ht rc rm : Nat → Int32} {p0 : Int32} (hT : TD nw wd dp wt br bk hb lids tops t) (hS : TSH ns ht rc rm t) (h : ST sh st lv f 0 nw ns) (hv : SV f) (h12 : nw ≤ 12) : ((0 ≤ p0.toInt ∧ p0.toInt < nw) ∧ ¬ (sh p0.toInt.toNat).toInt = -1) ↔ ((0 ≤ p0.toInt ∧ p0.toInt < (t 0).toInt) ∧ ¬ NI f 0 p0 (t 1).toInt) := by
  have e0 := hT.1
  have e1 := hS.1
  constructor
  · rintro ⟨z1, z2⟩
    refine ⟨by omega, fun z => z2 ?_⟩
    rw [← e1] at z
    exact h.out ⟨by omega, by omega⟩ z hv (by decide)
  · rintro ⟨z1, z2⟩
    refine ⟨by omega, fun z => z2 ?_⟩
    rw [← e1]
    exact h.ni ⟨by omega, by omega⟩ z
theorem ST.row2 {ns : Int} {sh st lv f : Nat → Int32} {nw : Int} {w s k q : Nat} (h : ST sh st lv f 0 nw ns) (hv : SV f) (hw : w < 12) (i : IN f 0 ns s k q w) (s4 : s < 4) (k8 : k < 8) : ROW sh st lv (sh w) (st w) (fun p => f (105 * s + 1 + 13 * k + 1 + p)) (f (105 * s + 1 + 13 * k)).toInt.toNat ∧ 0 ≤ (f (105 * s + 1 + 13 * k)).toInt ∧ (q : Int) < (f (105 * s + 1 + 13 * k)).toInt ∧ (f (105 * s + 1 + 13 * k)).toInt ≤ 12 := by
  obtain ⟨j1, j2, j3⟩ := h.pos hw i
  obtain ⟨i1, i2, i3, i4⟩ := i
  have es : (sh w).toInt.toNat = s := by omega
  have ek : (st w).toInt.toNat = k := by omega
  have hR := h.row hv (by decide) (s := sh w) (k := st w) (by omega) (by omega) (by omega) (by rw [es]; omega)
  have zz := hv.z12 (b := 0) (s := s) (k := k) (by decide) s4 k8
  rw [es, ek] at hR
  rw [show 460 * 0 + 105 * s = 105 * s by omega] at hR zz i3
  exact ⟨hR, zz.1, i3, zz.2⟩
theorem where_eq {nw ns : Int} {wd dp wt br bk hb : Nat → Int32} {lids tops : Int32} {t sh st lv f ht rc rm : Nat → Int32} {p0 p1 : Int32} {x y : Int} (hT : TD nw wd dp wt br bk hb lids tops t) (hS : TSH ns ht rc rm t) (h : ST sh st lv f 0 nw ns) (hv : SV f) (h12 : nw ≤ 12)
    (A : GRD ((0 ≤ p0.toInt ∧ p0.toInt < nw) ∧ ¬ (sh p0.toInt.toNat).toInt = -1) (-1) (fun x => ∀ (r : Nat → Int32) (n : Nat), ROW sh st lv (sh p0.toInt.toNat) (st p0.toInt.toNat) r n → x = whF p1.toInt (sh p0.toInt.toNat).toInt (st p0.toInt.toNat).toInt (lv p0.toInt.toNat).toInt ((n : Int) - 1 - (lv p0.toInt.toNat).toInt) (ftF (rsC wd dp lids) r (lv p0.toInt.toNat).toInt.toNat).toInt) x)
    (B : GRD ((0 ≤ p0.toInt ∧ p0.toInt < (t 0).toInt) ∧ ¬ NI f 0 p0 (t 1).toInt) (-1) (fun x => ∃ s k q : Nat, IN f 0 (t 1).toInt s k q p0.toInt.toNat ∧ s < 4 ∧ k < 8 ∧ x = whF p1.toInt (s : Int) (k : Int) (q : Int) ((f (105 * s + 1 + 13 * k)).toInt - 1 - (q : Int)) (ftF (rsM t) (fun p => f (105 * s + 1 + 13 * k + 1 + p)) q).toInt) y) : x = y := by
  refine GRD.eq A B (in_iff hT hS h hv h12) (fun z a b => ?_)
  obtain ⟨s, k, q, i, s4, k8, b⟩ := b
  rw [← hS.1] at i
  have w12 : p0.toInt.toNat < 12 := by omega
  obtain ⟨j1, j2, j3⟩ := h.pos w12 i
  obtain ⟨hR, n0, q1, _⟩ := h.row2 hv w12 i s4 k8
  have nw' := fun p hp => ROW.nw h (s := sh p0.toInt.toNat) (by omega) hR (p := p) hp
  have ef : ftF (rsC wd dp lids) (fun p => f (105 * s + 1 + 13 * k + 1 + p)) q = ftF (rsM t) (fun p => f (105 * s + 1 + 13 * k + 1 + p)) q := ftF_cong q (fun p hp => by
    have a1 := nw' p (by omega)
    have a2 := nw' (p + 1) (by omega)
    exact hT.rs (by omega) (by omega))
  rw [a _ _ hR, b, j1, j2, j3, Int.toNat_of_nonneg n0, show ((q : Int)).toNat = q by omega, ef]
theorem lift_eq {nw ns : Int} {wd dp wt br bk hb : Nat → Int32} {lids tops : Int32} {t sh st lv f ht rc rm : Nat → Int32} {p0 : Int32} {x y : Int} (hT : TD nw wd dp wt br bk hb lids tops t) (hS : TSH ns ht rc rm t) (h : ST sh st lv f 0 nw ns) (hv : SV f) (h12 : nw ≤ 12)
    (A : GRD ((0 ≤ p0.toInt ∧ p0.toInt < nw) ∧ ¬ (sh p0.toInt.toNat).toInt = -1) (-1) (fun x => ∀ (r : Nat → Int32) (n : Nat), ROW sh st lv (sh p0.toInt.toNat) (st p0.toInt.toNat) r n → x = (prC wt r (lv p0.toInt.toNat) (nI n) (rc (sh p0.toInt.toNat).toInt.toNat)).toInt) x)
    (B : GRD ((0 ≤ p0.toInt ∧ p0.toInt < (t 0).toInt) ∧ ¬ NI f 0 p0 (t 1).toInt) (-1) (fun x => ∃ s k q : Nat, IN f 0 (t 1).toInt s k q p0.toInt.toNat ∧ s < 4 ∧ k < 8 ∧ x = (lcF (wtM t) (fun p => f (105 * s + 1 + 13 * k + 1 + p)) (t (99 + 3 * s + 1)) q (f (105 * s + 1 + 13 * k)).toInt.toNat).toInt) y) : x = y := by
  refine GRD.eq A B (in_iff hT hS h hv h12) (fun z a b => ?_)
  obtain ⟨s, k, q, i, s4, k8, b⟩ := b
  rw [← hS.1] at i
  have w12 : p0.toInt.toNat < 12 := by omega
  obtain ⟨j1, j2, j3⟩ := h.pos w12 i
  have i1 := i.1
  obtain ⟨hR, n0, q1, n12⟩ := h.row2 hv w12 i s4 k8
  have nw' := fun p hp => ROW.nw h (s := sh p0.toInt.toNat) (by omega) hR (p := p) hp
  have el : lv p0.toInt.toNat = nI q := (i_eq _ _).mpr (by rw [nI_toInt (by omega)]; exact j3)
  have er : rc (sh p0.toInt.toNat).toInt.toNat = t (99 + 3 * s + 1) := by rw [show (sh p0.toInt.toNat).toInt.toNat = s by omega]; exact (i_eq _ _).mpr (hS.2 s (by omega)).2.1
  rw [a _ _ hR, b, el, er, ← lc_pr _ (by omega) (by omega), lcF_cong (wt := wt) (wt' := wtM t) (r' := fun p => f (105 * s + 1 + 13 * k + 1 + p)) _ (fun p _ hp => by have a1 := nw' p hp; exact hT.wt (by omega))]

theorem count_eq {nw ns nn na : Int} {wd dp wt br bk hb : Nat → Int32} {lids tops : Int32} {t sh st lv f ht rc rm : Nat → Int32} {p0 : Int32} {x y L M : Int} (hT : TD nw wd dp wt br bk hb lids tops t) (hS : TSH ns ht rc rm t) (h : ST sh st lv f 0 nw ns) (hv : SV f) (h0 : 0 ≤ nw) (h12 : nw ≤ 12) (hn : nn = (t 2).toInt) (ha : na = (f 421).toInt) (hl : L = M)
    (A : x = coF p0.toInt nw ns nn ((cnB (oT sh) nw.toNat : Nat) : Int) na L) (B : y = coF p0.toInt (t 0).toInt (t 1).toInt (t 2).toInt ((cnB (niB f 0 (t 1).toInt) (t 0).toInt.toNat : Nat) : Int) (f 421).toInt M) : x = y := by
  have e0 := hT.1
  have e1 := hS.1
  have ec : cnB (oT sh) nw.toNat = cnB (niB f 0 (t 1).toInt) (t 0).toInt.toNat := by
    rw [← e0, ← e1]
    refine cnB_cong _ (fun j hj => ?_)
    apply Bool.eq_iff_iff.mpr
    rw [oT_iff, niB_iff]
    have ej : (nI j).toInt = (j : Int) := nI_toInt (by omega)
    constructor
    · intro z; exact h.ni ⟨by omega, by omega⟩ (by rw [ej]; rw [show ((j : Int)).toNat = j by omega]; exact z)
    · intro z
      have := h.out ⟨by omega, by omega⟩ z hv (by decide)
      rw [ej, show ((j : Int)).toNat = j by omega] at this; exact this
  rw [A, B, ← e0, ← e1, ← hn, ← ha, ← hl, ec, ← e0, ← e1]

theorem pr_lc {nw ns : Int} {wd dp wt br bk hb : Nat → Int32} {lids tops : Int32} {t sh st lv f ht rc rm : Nat → Int32} {b : Nat} (hT : TD nw wd dp wt br bk hb lids tops t) (hS : TSH ns ht rc rm t) (h : ST sh st lv f b nw ns) (hv : SV f) (hb6 : b < 6) {w s k q : Nat} (w12 : w < 12) (i : IN f b ns s k q w) (s4 : s < 4) (k8 : k < 8) {z : Int32} (a : ∀ (r : Nat → Int32) (n : Nat), ROW sh st lv (sh w) (st w) r n → z = prC wt r (lv w) (nI n) (rc (sh w).toInt.toNat)) : z = lcF (wtM t) (fun p => f (460 * b + 105 * s + 1 + 13 * k + 1 + p)) (t (99 + 3 * s + 1)) q (f (460 * b + 105 * s + 1 + 13 * k)).toInt.toNat := by
  obtain ⟨j1, j2, j3⟩ := h.pos w12 i
  have i1 := i.1
  have i2 := i.2.1
  have i3 := i.2.2.1
  have es : (sh w).toInt.toNat = s := by omega
  have ek : (st w).toInt.toNat = k := by omega
  have hR := h.row hv hb6 (s := sh w) (k := st w) (by omega) (by omega) (by omega) (by rw [es]; omega)
  rw [es, ek] at hR
  have zz := hv.z12 hb6 s4 k8
  have nw' := fun p hp => ROW.nw h (s := sh w) (by omega) hR (p := p) hp
  have el : lv w = nI q := (i_eq _ _).mpr (by rw [nI_toInt (by omega)]; exact j3)
  have er : rc (sh w).toInt.toNat = t (99 + 3 * s + 1) := by rw [es]; exact (i_eq _ _).mpr (hS.2 s (by omega)).2.1
  rw [a _ _ hR, el, er, ← lc_pr _ (by omega) (by omega), lcF_cong (wt := wt) (wt' := wtM t) (r' := fun p => f (460 * b + 105 * s + 1 + 13 * k + 1 + p)) _ (fun p _ hp => by have a1 := nw' p hp; exact hT.wt (by omega))]
theorem pr_uniq {nw ns : Int} {wd dp wt br bk hb : Nat → Int32} {lids tops : Int32} {t sh st lv f ht rc rm : Nat → Int32} {b : Nat} (hT : TD nw wd dp wt br bk hb lids tops t) (hS : TSH ns ht rc rm t) (h : ST sh st lv f b nw ns) (hv : SV f) (hb6 : b < 6) {w : Int32} (hw : 0 ≤ w.toInt ∧ w.toInt < 12) {x y : Int32} (A : pAC wt rc sh st lv w.toInt.toNat x) (B : pAM t f b ns w y) : x = y := by
  rcases A with ⟨a1, a2⟩ | ⟨a1, a2⟩
  · rcases B with ⟨b1, b2⟩ | ⟨b1, b2⟩
    · exact a2.trans b2.symm
    · exact absurd (h.ni hw a1) b1
  · rcases B with ⟨b1, b2⟩ | ⟨b1, b2⟩
    · exact absurd (h.out hw b1 hv hb6) a1
    · obtain ⟨s, k, q, i, s4, k8, e⟩ := b2
      rw [e]; exact pr_lc hT hS h hv hb6 (by omega) i s4 k8 a2
theorem asked_eq {nw ns na : Int} {wd dp wt br bk hb : Nat → Int32} {lids tops : Int32} {t sh st lv as f ht rc rm : Nat → Int32} {x y : Int32} (hT : TD nw wd dp wt br bk hb lids tops t) (hS : TSH ns ht rc rm t) (h : ST sh st lv f 0 nw ns) (hv : SV f) (hq : AQ as na f 422) (hi : Iv 30 0 11 as) (hn : na ≤ 30) (ha : na = (f 421).toInt) (A : SR (pAA wt rc sh st lv as) na.toNat x) (B : SR (pAMA t f (t 1).toInt) (f 421).toInt.toNat y) : x = y := by
  rw [← ha, ← hS.1] at B
  refine SR.uniq _ _ _ (fun j hj a b pa pb => ?_) A B
  have e := hq j (by omega)
  have i := hi j (by omega)
  have pb' : pAM t f 0 ns (f (422 + j)) b := pb
  rw [← e] at pb'
  exact pr_uniq hT hS h hv (by decide) ⟨i.1, by omega⟩ pa pb'
theorem habit_eq {nw ns : Int} {wd dp wt br bk hb : Nat → Int32} {lids tops : Int32} {t sh st lv f ht rc rm : Nat → Int32} {p : Int32} {x y : Int} (hT : TD nw wd dp wt br bk hb lids tops t) (hS : TSH ns ht rc rm t) (h : ST sh st lv f 0 nw ns) (hv : SV f) (h0 : 0 ≤ nw) (h12 : nw ≤ 12)
    (A : ∃ ab : Int32, SR (pHC hb wt rc sh st lv) nw.toNat ab ∧ haC p ab (sumF hb nw.toNat) x)
    (B : ∃ ab : Int32, SR (pHM t f (t 1).toInt) (t 0).toInt.toNat ab ∧ 0 ≤ ab.toInt ∧ (0 ≤ (sumF (hbM t) (t 0).toInt.toNat).toInt ∧ (sumF (hbM t) (t 0).toInt.toNat).toInt ≤ 11988) ∧ haM p ab (sumF (hbM t) (t 0).toInt.toNat) y) : x = y := by
  rw [← hT.1, ← hS.1] at B
  obtain ⟨a, a1, a2⟩ := A
  obtain ⟨b, b1, b2, b3, b4⟩ := B
  have hbE : ∀ j : Nat, (j : Int) < nw → hb j = hbM t j := fun j hj => (i_eq _ _).mpr (hT.2 j hj).2.2.2.2.2.1
  have e1 : sumF hb nw.toNat = sumF (hbM t) nw.toNat := sumF_cong _ (fun j hj => hbE j (by omega))
  have e2 : a = b := SR.uniq _ _ _ (fun j hj u v pu pv => by
    obtain ⟨u', pu, eu'⟩ := pu
    obtain ⟨v', pv, ev'⟩ := pv
    have ej : (nI j).toInt = (j : Int) := nI_toInt (by omega)
    have pu' : pAC wt rc sh st lv (nI j).toInt.toNat u' := by rw [ej, Int.toNat_natCast]; exact pu
    rw [eu', ev', pr_uniq hT hS h hv (by decide) ⟨by omega, by omega⟩ pu' pv, hbE j (by omega)]) a1 b1
  subst e2
  rw [e1] at a2
  exact ha_eq a2 b4 b2 b3.1 b3.2

